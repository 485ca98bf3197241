section
/-! ===== long numbers, and the values of fields ===== -/
theorem jeqL {z : Int64} {y : Int} (h : z.toBitVec.toNat = (y % 18446744073709551616).toNat) : z.toInt = jl_w y := by
  unfold jl_w
  rw [jbl_ti, jbl_ti, jbl_tn, h]
theorem jlw_m (x : Int) : jl_w x % 18446744073709551616 = x % 18446744073709551616 := by
  unfold jl_w
  rw [jbl_ti, jbl_tn]
  split <;> omega
theorem jlw_c {x y : Int} (h : x % 18446744073709551616 = y % 18446744073709551616) : jl_w x = jl_w y := by
  unfold jl_w
  rw [jbl_ti, jbl_ti, jbl_tn, jbl_tn, h]
theorem jl_shl_8 (n : Int) : jl_shl n 8 = jl_w (n * 256) := by
  unfold jl_shl
  apply jeqL
  rw [Int64.toBitVec_shiftLeft]
  show ((Int64.ofInt n).toBitVec <<< (((Int32.ofInt ((8 : Nat) : Int)).toInt64 &&& 63).toBitVec.smod 64).toNat).toNat = _
  rw [jbl_sl 8 (by decide), BitVec.toNat_shiftLeft, jbl_tn, Nat.shiftLeft_eq]
  omega
theorem jl_shl_16 (n : Int) : jl_shl n 16 = jl_w (n * 65536) := by
  unfold jl_shl
  apply jeqL
  rw [Int64.toBitVec_shiftLeft]
  show ((Int64.ofInt n).toBitVec <<< (((Int32.ofInt ((16 : Nat) : Int)).toInt64 &&& 63).toBitVec.smod 64).toNat).toNat = _
  rw [jbl_sl 16 (by decide), BitVec.toNat_shiftLeft, jbl_tn, Nat.shiftLeft_eq]
  omega
theorem jl_shl_32 (n : Int) : jl_shl n 32 = jl_w (n * 4294967296) := by
  unfold jl_shl
  apply jeqL
  rw [Int64.toBitVec_shiftLeft]
  show ((Int64.ofInt n).toBitVec <<< (((Int32.ofInt ((32 : Nat) : Int)).toInt64 &&& 63).toBitVec.smod 64).toNat).toNat = _
  rw [jbl_sl 32 (by decide), BitVec.toNat_shiftLeft, jbl_tn, Nat.shiftLeft_eq]
  omega
theorem jl_or_8 {m b : Int} (hb : 0 ≤ b ∧ b < 256) : jl_or (jl_w (m * 256)) b = jl_w (m * 256 + b) := by
  unfold jl_or
  apply jeqL
  rw [Int64.toBitVec_or, BitVec.toNat_or, jbl_tn, jbl_tn, jlw_m]
  rw [show (m * 256 % 18446744073709551616).toNat = 2 ^ 8 * (m % 72057594037927936).toNat by omega, show (b % 18446744073709551616).toNat = b.toNat by omega]
  rw [← Nat.two_pow_add_eq_or_of_lt (show b.toNat < 2 ^ 8 by omega)]
  omega
theorem jl_or_16 {m b : Int} (hb : 0 ≤ b ∧ b < 65536) : jl_or (jl_w (m * 65536)) b = jl_w (m * 65536 + b) := by
  unfold jl_or
  apply jeqL
  rw [Int64.toBitVec_or, BitVec.toNat_or, jbl_tn, jbl_tn, jlw_m]
  rw [show (m * 65536 % 18446744073709551616).toNat = 2 ^ 16 * (m % 281474976710656).toNat by omega, show (b % 18446744073709551616).toNat = b.toNat by omega]
  rw [← Nat.two_pow_add_eq_or_of_lt (show b.toNat < 2 ^ 16 by omega)]
  omega
theorem jl_or_32 {m b : Int} (hb : 0 ≤ b ∧ b < 4294967296) : jl_or (jl_w (m * 4294967296)) b = jl_w (m * 4294967296 + b) := by
  unfold jl_or
  apply jeqL
  rw [Int64.toBitVec_or, BitVec.toNat_or, jbl_tn, jbl_tn, jlw_m]
  rw [show (m * 4294967296 % 18446744073709551616).toNat = 2 ^ 32 * (m % 4294967296).toNat by omega, show (b % 18446744073709551616).toNat = b.toNat by omega]
  rw [← Nat.two_pow_add_eq_or_of_lt (show b.toNat < 2 ^ 32 by omega)]
  omega
theorem jl_sho_w {n b : Int} (hb : 0 ≤ b ∧ b < 256) : jl_or (jl_shl n 8) b = jl_w (n * 256 + b) := by rw [jl_shl_8, jl_or_8 hb]
theorem jl_ushr_x {x s : Int} (h0 : 0 ≤ x ∧ x ≤ 9223372036854775807) (hs : 0 ≤ s ∧ s < 64) : jl_ushr x s = x / ((2 ^ s.toNat : Nat) : Int) := by
  obtain ⟨k, rfl⟩ := Int.eq_ofNat_of_zero_le hs.1
  obtain ⟨n, rfl⟩ := Int.eq_ofNat_of_zero_le h0.1
  have hk : k < 64 := by omega
  rw [show ((k : Nat) : Int).toNat = k by omega]
  unfold jl_ushr
  have hN : ((Int64.ofInt (n : Int)).toUInt64 >>> ((Int32.ofInt (k : Nat)).toInt64.toUInt64 &&& Int64.toUInt64 63)).toInt64.toBitVec.toNat = n / 2 ^ k := by
    show ((Int64.ofInt (n : Int)).toUInt64 >>> ((Int32.ofInt (k : Nat)).toInt64.toUInt64 &&& Int64.toUInt64 63)).toBitVec.toNat = _
    rw [UInt64.toBitVec_shiftRight]
    show ((Int64.ofInt (n : Int)).toBitVec >>> ((((Int32.ofInt (k : Nat)).toInt64.toUInt64 &&& Int64.toUInt64 63).toBitVec % 64))).toNat = _
    rw [BitVec.ushiftRight_eq', BitVec.toNat_ushiftRight, jbl_su k hk, jbl_tn, Nat.shiftRight_eq_div_pow]
    rw [show ((n : Int) % 18446744073709551616).toNat = n by omega]
  have hle : n / 2 ^ k ≤ n := Nat.div_le_self _ _
  rw [jbl_ti, hN, if_pos (by omega)]
  exact Int.natCast_ediv n (2 ^ k)
theorem jl_ushr_xb {x s : Int} (h0 : 0 ≤ x ∧ x ≤ 9223372036854775807) (hs : 0 ≤ s ∧ s < 64) : jl_ushr x s = x / ((2 ^ s.toNat : Nat) : Int) ∧ 0 ≤ jl_ushr x s ∧ jl_ushr x s ≤ x := by
  rw [jl_ushr_x h0 hs]
  exact ⟨rfl, Int.ediv_nonneg h0.1 (Int.natCast_nonneg _), Int.ediv_le_self _ h0.1⟩
theorem jl_shl_10 : ∀ k : Nat, k < 33 → jl_shl 1 ((k : Nat) : Int) = ((2 ^ k : Nat) : Int) ∧ 2 ^ k ≤ 4294967296 := by decide +kernel
theorem jl_shl_1 {b : Int} (h : 0 ≤ b ∧ b ≤ 32) : jl_shl 1 b = ((2 ^ b.toNat : Nat) : Int) ∧ 1 ≤ jl_shl 1 b ∧ jl_shl 1 b ≤ 4294967296 := by
  obtain ⟨k, rfl⟩ := Int.eq_ofNat_of_zero_le h.1
  have q := jl_shl_10 k (by omega)
  have hp := Nat.two_pow_pos k
  rw [show ((k : Nat) : Int).toNat = k by omega]
  refine ⟨q.1, ?_, ?_⟩
  · rw [q.1]; omega
  · rw [q.1]; omega
theorem jl_and_p {x b P : Int} (hx : 0 ≤ x ∧ x ≤ 9223372036854775807) (h : 0 ≤ b ∧ b ≤ 32) (hP : P = ((2 ^ b.toNat : Nat) : Int)) : jl_and x (P - 1) = x % P ∧ 0 ≤ jl_and x (P - 1) ∧ jl_and x (P - 1) ≤ x := by
  have hp := Nat.two_pow_pos b.toNat
  have q := jl_and_mask (x := x) b.toNat (by omega) hx.1 hx.2
  rw [show ((2 ^ b.toNat - 1 : Nat) : Int) = P - 1 by omega, ← hP] at q
  rw [q]
  refine ⟨rfl, Int.emod_nonneg _ (by omega), ?_⟩
  by_cases hl : x < P
  · rw [Int.emod_eq_of_lt hx.1 hl]; omega
  · have := Int.emod_lt_of_pos x (show 0 < P by omega)
    omega
theorem jl_and_1 (x : Int) : jl_and x 1 = x % 2 := by
  unfold jl_and
  have hN : (Int64.ofInt x &&& Int64.ofInt 1).toBitVec.toNat = (x % 18446744073709551616).toNat % 2 ^ 1 := by
    rw [Int64.toBitVec_and, BitVec.toNat_and, jbl_tn, jbl_tn]
    exact Nat.and_two_pow_sub_one_eq_mod _ 1
  rw [jbl_ti, hN]
  split <;> omega
theorem nbs_3 (f : Int → Int) (y : Int) : nbs f y 3 = (f y * 256 + f (y + 1)) * 256 + f (y + 2) := by
  show nbs f y 2 * 256 + f (y + ((2 : Nat) : Int)) = _
  rw [nbs_2]
  rfl
theorem nbs_4 (f : Int → Int) (y : Int) : nbs f y 4 = ((f y * 256 + f (y + 1)) * 256 + f (y + 2)) * 256 + f (y + 3) := by
  show nbs f y 3 * 256 + f (y + ((3 : Nat) : Int)) = _
  rw [nbs_3]
  rfl
theorem nbs_8 (f : Int → Int) (y : Int) : nbs f y 8 = nbs f y 4 * 4294967296 + nbs f (y + 4) 4 := by
  show (((nbs f y 4 * 256 + f (y + ((4 : Nat) : Int))) * 256 + f (y + ((5 : Nat) : Int))) * 256 + f (y + ((6 : Nat) : Int))) * 256 + f (y + ((7 : Nat) : Int)) = _
  rw [nbs_4 f (y + 4), show y + 4 + 1 = y + ((5 : Nat) : Int) by omega, show y + 4 + 2 = y + ((6 : Nat) : Int) by omega, show y + 4 + 3 = y + ((7 : Nat) : Int) by omega, show y + ((4 : Nat) : Int) = y + 4 by omega]
  omega
theorem nbs_r4 {f : Int → Int} {y : Int} {n : Nat} (hn : n ≤ 4) (h : ∀ i : Int, y ≤ i → i < y + n → 0 ≤ f i ∧ f i ≤ 255) : 0 ≤ nbs f y n ∧ nbs f y n < 4294967296 := by
  rcases (show n = 0 ∨ n = 1 ∨ n = 2 ∨ n = 3 ∨ n = 4 by omega) with rfl | rfl | rfl | rfl | rfl
  · exact ⟨Int.le_refl _, show (0 : Int) < 4294967296 by decide⟩
  · have a := h y (by omega) (by omega)
    rw [nbs_1]; omega
  · have a := h y (by omega) (by omega)
    have b := h (y + 1) (by omega) (by omega)
    rw [nbs_2]; omega
  · have a := h y (by omega) (by omega)
    have b := h (y + 1) (by omega) (by omega)
    have c := h (y + 2) (by omega) (by omega)
    rw [nbs_3]; omega
  · have a := h y (by omega) (by omega)
    have b := h (y + 1) (by omega) (by omega)
    have c := h (y + 2) (by omega) (by omega)
    have d := h (y + 3) (by omega) (by omega)
    rw [nbs_4]; omega
/-- the value of field j of a header of kind k at a, size z -/
noncomputable def vof (f : Int → Int) (z k a j : Int) : Int := if k = 11 then z else if 64 ≤ xcv_4 (4 * (xcv_3 k + j) + 3) then jl_w (nbs f (a + xcv_4 (4 * (xcv_3 k + j))) (xcv_4 (4 * (xcv_3 k + j) + 1)).toNat) else nbs f (a + xcv_4 (4 * (xcv_3 k + j))) (xcv_4 (4 * (xcv_3 k + j) + 1)).toNat / ((2 ^ (xcv_4 (4 * (xcv_3 k + j) + 2)).toNat : Nat) : Int) % ((2 ^ (xcv_4 (4 * (xcv_3 k + j) + 3)).toNat : Nat) : Int)
noncomputable def vA (f : Int → Int) (N C x j : Int) : Int := if (0 ≤ x ∧ x < C) ∧ 0 ≤ j ∧ j < xcv_2 (hX f N x) then vof f (hZ f N x) (hX f N x) (hY f N x) j else -1
noncomputable def kA (f : Int → Int) (N C x : Int) : Int := if 0 ≤ x ∧ x < C then hX f N x else -1
noncomputable def pA (f : Int → Int) (N C x : Int) : Int := if 0 ≤ x ∧ x < C then hY f N x else -1
theorem vA_in {f : Int → Int} {N C x j k a v : Int} (h0 : 0 ≤ x ∧ x < C) (hk : hX f N x = k) (ha : hY f N x = a) (hj : 0 ≤ j ∧ j < xcv_2 k) (hv : v = vof f (hZ f N x) k a j) : v = vA f N C x j := by
  unfold vA
  rw [hk, ha, if_pos ⟨h0, hj⟩, hv]
theorem vA_out {f : Int → Int} {N C x j : Int} (h : (x < 0 ∨ C ≤ x) ∨ j < 0 ∨ xcv_2 (hX f N x) ≤ j) : -1 = vA f N C x j := by
  unfold vA
  rw [if_neg (by omega)]
/-- what the tables of the fields say: 11 kinds, their fields -/
theorem vtab0 : ∀ k : Nat, k < 11 → ∀ j : Nat, j < 11 → xcv_2 (k : Int) ≤ (j : Int) ∨ ((0 ≤ xcv_4 (4 * (xcv_3 (k : Int) + (j : Int))) ∧ xcv_4 (4 * (xcv_3 (k : Int) + (j : Int))) + xcv_4 (4 * (xcv_3 (k : Int) + (j : Int)) + 1) ≤ lst (k : Int)) ∧ (0 ≤ xcv_4 (4 * (xcv_3 (k : Int) + (j : Int)) + 1) ∧ xcv_4 (4 * (xcv_3 (k : Int) + (j : Int)) + 1) ≤ 8) ∧ (xcv_4 (4 * (xcv_3 (k : Int) + (j : Int)) + 3) = 64 ∨ (0 ≤ xcv_4 (4 * (xcv_3 (k : Int) + (j : Int)) + 3) ∧ xcv_4 (4 * (xcv_3 (k : Int) + (j : Int)) + 3) ≤ 32 ∧ xcv_4 (4 * (xcv_3 (k : Int) + (j : Int)) + 1) ≤ 4)) ∧ (0 ≤ xcv_4 (4 * (xcv_3 (k : Int) + (j : Int)) + 2) ∧ xcv_4 (4 * (xcv_3 (k : Int) + (j : Int)) + 2) < 64)) := by decide +kernel
theorem vtab {k j : Int} (hk : 0 ≤ k ∧ k < 11) (hj : 0 ≤ j ∧ j < 11) (h : j < xcv_2 k) : (0 ≤ xcv_4 (4 * (xcv_3 k + j)) ∧ xcv_4 (4 * (xcv_3 k + j)) + xcv_4 (4 * (xcv_3 k + j) + 1) ≤ lst k) ∧ (0 ≤ xcv_4 (4 * (xcv_3 k + j) + 1) ∧ xcv_4 (4 * (xcv_3 k + j) + 1) ≤ 8) ∧ (xcv_4 (4 * (xcv_3 k + j) + 3) = 64 ∨ (0 ≤ xcv_4 (4 * (xcv_3 k + j) + 3) ∧ xcv_4 (4 * (xcv_3 k + j) + 3) ≤ 32 ∧ xcv_4 (4 * (xcv_3 k + j) + 1) ≤ 4)) ∧ (0 ≤ xcv_4 (4 * (xcv_3 k + j) + 2) ∧ xcv_4 (4 * (xcv_3 k + j) + 2) < 64) := by
  obtain ⟨k, rfl⟩ := Int.eq_ofNat_of_zero_le hk.1
  obtain ⟨j, rfl⟩ := Int.eq_ofNat_of_zero_le hj.1
  rcases vtab0 k (by omega) j (by omega) with q | q
  · omega
  · exact q
/-- a header that is there has its bytes -/
theorem hok_l {f : Int → Int} {N i : Int} (h : hok f N i) (hf : ∀ i : Int, 0 ≤ i → i < 400 → 0 ≤ f i ∧ f i ≤ 255) (hN : N ≤ 400) : hY f N i + lst (hX f N i) ≤ N ∧ hY f N i + hZ f N i ≤ N ∧ 0 ≤ hZ f N i ∧ ¬ ((hX f N i = 2 ∨ hX f N i = 8) ∧ hZ f N i < 20) := by
  have q := hsF_z h.2
  have q2 := hsZ_r hf hN q.2.1
  have l1 := lst_k (hX f N i)
  have l2 := hls_all (hX f N i)
  have l3 : lst (hX f N i) ≤ hls (hX f N i) ∨ hX f N i = 4 ∨ hX f N i = 5 := by
    unfold lst hls
    (repeat' split) <;> omega
  refine ⟨?_, q.2.2.1, q2.1, q.2.2.2⟩
  by_cases e : hX f N i = 4 ∨ hX f N i = 5
  · have hz : hsZ f N (hX f N i) (hY f N i) = 8 * hb f N (hY f N i + 1) + 8 := by
      unfold hsZ
      rw [if_neg (by omega), if_neg (by omega), if_pos e]
    have hb0 := hb_r hf hN (i := hY f N i + 1)
    have l4 : lst (hX f N i) = 8 := by omega
    omega
  · omega
end
section
/-! ===== the class: headers' kinds, places, values ===== -/
theorem nbw_s {f : Int → Int} {y i n b : Int} (h : y ≤ i) (hn : n = jl_w (nbs f y (i - y).toNat)) (hb : f i = b) : jl_w (n * 256 + b) = jl_w (nbs f y (i + 1 - y).toNat) := by
  rw [nbs_s h, hb]
  have q := jlw_m (nbs f y (i - y).toNat)
  rw [← hn] at q
  exact jlw_c (by omega)
theorem nbw_0 (f : Int → Int) (y : Int) : (0 : Int) = jl_w (nbs f y (y - y).toNat) := by
  rw [nbs_0]
  rfl
theorem c_PacketWall_numberAt_pw_L5 {A : Nat → Option (Nat × (Nat → Int32))} {Q : Option Value → jm → Prop} {f : Int → Int} {M : jm} (hC_M : CI M) {x : Nat} (k_x : kd x = 34) {y : Int} {z : Int} (q : ∀ (r : Int), (-9223372036854775808) ≤ r ∧ r ≤ 9223372036854775807 → (r = jl_w (nbs f y z.toNat)) → Q (some (.long (Int64.ofInt r))) M) : ∀ (nM : Nat) (n : Int) (i : Int), 0 ≤ y ∧ y ≤ 400 → 0 ≤ z ∧ z ≤ 8 → (-9223372036854775808) ≤ n ∧ n ≤ 9223372036854775807 → 0 ≤ i ∧ i ≤ 408 → (n = jl_w (nbs f y (i - y).toNat)) → (y ≤ i ∧ i ≤ y + z ∧ y + z ≤ 400) → (BY8 M x f) → y + z - i ≤ nM → jr A 0 xm_52 5 [(1, .int (Int32.ofInt (y))), (2, .int (Int32.ofInt (z))), (3, .long (Int64.ofInt (n))), (5, .int (Int32.ofInt (i))), (0, .ref (x))] [] M Q := by
  intro nM
  induction nM using Nat.strongRecOn with
  | ind nM ih =>
    intro n i h_y h_z h_n h_i hy0 hy1 hy2 hm
    refine jr.iload rfl rfl ?_
    refine jr.iload_n rfl rfl ?_
    refine jr.iload_n rfl rfl ?_
    refine jr.iadd rfl ?_
    refine jr.icmp_ge rfl rfl (by first | (refine rgb (by assumption) ?_; exact rfl) | omega) (by first | (refine rgb (by assumption) ?_; exact rfl) | omega) (fun h10 => ?_) (fun h10 => ?_)
    · refine jr.lload_n rfl rfl ?_
      exact jr.lreturn rfl rfl (q _ (by omega) (by rw [hy0, show i - y = z from by omega]))
    · refine jr.lload_n rfl rfl ?_
      refine jr.bipush rfl (jbp _ (nlt rfl)) ?_
      refine jr.lshl rfl ?_
      refine jr.iload rfl rfl ?_
      refine jr.if_lt rfl rfl (by first | (refine rgb (by assumption) ?_; exact rfl) | omega) (fun h19 => ?_) (fun h19 => ?_)
      · exact absurd h19 (by omega)
      · refine jr.iload rfl rfl ?_
        refine jr.aload_n rfl rfl ?_
        refine jr.alen0 (x := 400) rfl (Nat.lt_trans (kx_34 k_x).1 (by decide)) (kx_34 k_x).2 rfl ?_
        refine jr.icmp_ge rfl rfl (by first | (refine rgb (by assumption) ?_; exact rfl) | omega) (by first | (refine rgb (by assumption) ?_; exact rfl) | omega) (fun h26 => ?_) (fun h26 => ?_)
        · refine jr.iconst rfl ?_
          refine jr.i2l rfl (by omega) ?_
          refine jr.lor rfl ?_
          have b1 : jl_or (jl_shl n 8) 0 = jl_w (n * 256 + 0) ∧ -9223372036854775808 ≤ jl_or (jl_shl n 8) 0 ∧ jl_or (jl_shl n 8) 0 ≤ 9223372036854775807 := ⟨jl_sho_w (by omega), jbl_any _⟩
          generalize jl_or (jl_shl n 8) 0 = v1 at b1 ⊢
          refine jr.lstore_n (ls' := [_, _, _, _, _]) rfl (nlt rfl) rfl ?_
          refine jr.iinc (ls' := [_, _, _, _, _]) rfl rfl (nlt rfl) rfl ?_
          refine jr.goto rfl rfl ?_
          refine jr.pick (ls := [_, _, _, _, _]) [2, 3, 1, 0, 4] rfl rfl ?_
          exact ih (nM - 1) (by omega) v1 (i + 1) (by omega) (by omega) (by omega) (by omega) (b1.1.trans (nbw_s (by omega) hy0 (by omega))) (by omega) hy2 (by omega)
        · refine jr.aload_n rfl rfl ?_
          refine jr.iload rfl rfl ?_
          obtain ⟨v2, e2⟩ : ∃ z_, M x i = z_ := ⟨_, rfl⟩
          have b2 : (-1) ≤ v2 ∧ v2 ≤ 255 := by rw [← e2]; exact (CI.r hC_M k_x (by decide) i)
          refine jr.iald (i := i) (x := v2) rfl (Nat.lt_trans (kx_34 k_x).1 (by decide)) (kx_34 k_x).2 (by decide) (by omega) (by omega) e2 ?_
          have hb0 := hy2 i (by omega) (by omega)
          refine jr.goto rfl rfl ?_
          refine jr.i2l rfl (by omega) ?_
          refine jr.lor rfl ?_
          have b3 : jl_or (jl_shl n 8) v2 = jl_w (n * 256 + v2) ∧ -9223372036854775808 ≤ jl_or (jl_shl n 8) v2 ∧ jl_or (jl_shl n 8) v2 ≤ 9223372036854775807 := ⟨jl_sho_w (by omega), jbl_any _⟩
          generalize jl_or (jl_shl n 8) v2 = v3 at b3 ⊢
          refine jr.lstore_n (ls' := [_, _, _, _, _]) rfl (nlt rfl) rfl ?_
          refine jr.iinc (ls' := [_, _, _, _, _]) rfl rfl (nlt rfl) rfl ?_
          refine jr.goto rfl rfl ?_
          refine jr.pick (ls := [_, _, _, _, _]) [2, 3, 1, 0, 4] rfl rfl ?_
          exact ih (nM - 1) (by omega) v3 (i + 1) (by omega) (by omega) (by omega) (by omega) (b3.1.trans (nbw_s (by omega) hy0 (by omega))) (by omega) hy2 (by omega)
theorem c_PacketWall_numberAt_pw {A : Nat → Option (Nat × (Nat → Int32))} {Q : Option Value → jm → Prop} {f : Int → Int} {M : jm} (hC_M : CI M) {x : Nat} (k_x : kd x = 34) {y : Int} (h_y : 0 ≤ y ∧ y ≤ 400) {z : Int} (h_z : 0 ≤ z ∧ z ≤ 8) (p0 : y + z ≤ 400) (p1 : BY8 M x f) (q : ∀ (r : Int), (-9223372036854775808) ≤ r ∧ r ≤ 9223372036854775807 → (r = jl_w (nbs f y z.toNat)) → Q (some (.long (Int64.ofInt r))) M) : jc A 1 52 [.ref (x), .int (Int32.ofInt (y)), .int (Int32.ofInt (z))] M Q := by
  refine jc_of (m := xm_52) rfl (Nat.le_of_ble_eq_true rfl) rfl ?_
  refine jr.lconst (x := 0) rfl (by decide) ?_
  refine jr.lstore_n (ls' := [_, _, _, _]) rfl (nlt rfl) rfl ?_
  refine jr.iload_n rfl rfl ?_
  refine jr.istore (ls' := [_, _, _, _, _]) rfl (nlt rfl) rfl ?_
  refine jr.pick (ls := [_, _, _, _, _]) [3, 4, 1, 0, 2] rfl rfl ?_
  exact c_PacketWall_numberAt_pw_L5 hC_M k_x q 8 0 y (by omega) (by omega) (by omega) (by omega) (nbw_0 _ _) (by omega) p1 (by omega)
theorem c_Headers_kindAt_x {A : Nat → Option (Nat × (Nat → Int32))} {Q : Option Value → jm → Prop} {f : Int → Int} {N : Int} {M : jm} (hC_M : CI M) {t : Nat} (k_t : kd t = 18) {x : Int} (h_x : (-2147483648) ≤ x ∧ x ≤ 2147483647) {C : Int} (g_C : M t 3 = C) (p0 : HS M t f N) (q : ∀ (r : Int), (-1) ≤ r ∧ r ≤ 11 → (r = kA f N C x) → Q (some (.int (Int32.ofInt r))) M) : jc A 1 107 [.ref (t), .int (Int32.ofInt (x))] M Q := by
  refine jc_of (m := xm_107) rfl (Nat.le_of_ble_eq_true rfl) rfl ?_
  have b_C : 0 ≤ C ∧ C ≤ 12 := by rw [← g_C]; exact (CI.r hC_M k_t (by decide) 3)
  refine jr.iload_n rfl rfl ?_
  refine jr.if_lt rfl rfl (by first | (refine rgb (by assumption) ?_; exact rfl) | omega) (fun h1 => ?_) (fun h1 => ?_)
  · refine jr.iconst rfl ?_
    exact jr.ireturn rfl rfl rfl (q _ (by first | exact rgq rfl | omega) (by unfold kA; first | (rw [if_neg (by omega)]) | (have hr := p0.2.2.2.2.1 x (by omega) (by omega); rw [if_pos (by omega)]; omega)))
  · refine jr.iload_n rfl rfl ?_
    refine jr.aload_n rfl rfl ?_
    refine jr.getf (i := 3) (x := C) (v := .int (Int32.ofInt (C))) rfl rfl (Nat.lt_trans (kx_18 k_t).1 (by decide)) (kx_18 k_t).2 (by decide) rfl rfl g_C rfl ?_
    refine jr.icmp_ge rfl rfl (by first | (refine rgb (by assumption) ?_; exact rfl) | omega) (by first | (refine rgb (by assumption) ?_; exact rfl) | omega) (fun h9 => ?_) (fun h9 => ?_)
    · refine jr.iconst rfl ?_
      exact jr.ireturn rfl rfl rfl (q _ (by first | exact rgq rfl | omega) (by unfold kA; first | (rw [if_neg (by omega)]) | (have hr := p0.2.2.2.2.1 x (by omega) (by omega); rw [if_pos (by omega)]; omega)))
    · refine jr.aload_n rfl rfl ?_
      have k1 := kf_18_0 k_t
      refine jr.getf (i := 0) (v := .ref (t + 1)) rfl rfl (Nat.lt_trans (kx_18 k_t).1 (by decide)) (kx_18 k_t).2 (by decide) rfl rfl rfl (jval_ref rfl k1.1) ?_
      refine jr.iload_n rfl rfl ?_
      obtain ⟨v2, e2⟩ : ∃ z_, M ((t + 1)) x = z_ := ⟨_, rfl⟩
      have b2 : 0 ≤ v2 ∧ v2 ≤ 11 := by rw [← e2]; exact (CI.r hC_M k1.2 (by decide) x)
      refine jr.iald (i := x) (x := v2) rfl (Nat.lt_trans (kx_19 k1.2).1 (by decide)) (kx_19 k1.2).2 (by decide) (by omega) (by omega) e2 ?_
      refine jr.goto rfl rfl ?_
      exact jr.ireturn rfl rfl rfl (q _ (by omega) (by unfold kA; first | (rw [if_neg (by omega)]) | (have hr := p0.2.2.2.2.1 x (by omega) (by omega); rw [if_pos (by omega)]; omega)))
theorem c_Headers_placeAt_x {A : Nat → Option (Nat × (Nat → Int32))} {Q : Option Value → jm → Prop} {f : Int → Int} {N : Int} {M : jm} (hC_M : CI M) {t : Nat} (k_t : kd t = 18) {x : Int} (h_x : (-2147483648) ≤ x ∧ x ≤ 2147483647) {C : Int} (g_C : M t 3 = C) (p0 : HS M t f N) (q : ∀ (r : Int), (-1) ≤ r ∧ r ≤ 400 → (r = pA f N C x) → Q (some (.int (Int32.ofInt r))) M) : jc A 1 108 [.ref (t), .int (Int32.ofInt (x))] M Q := by
  refine jc_of (m := xm_108) rfl (Nat.le_of_ble_eq_true rfl) rfl ?_
  have b_C : 0 ≤ C ∧ C ≤ 12 := by rw [← g_C]; exact (CI.r hC_M k_t (by decide) 3)
  refine jr.iload_n rfl rfl ?_
  refine jr.if_lt rfl rfl (by first | (refine rgb (by assumption) ?_; exact rfl) | omega) (fun h1 => ?_) (fun h1 => ?_)
  · refine jr.iconst rfl ?_
    exact jr.ireturn rfl rfl rfl (q _ (by first | exact rgq rfl | omega) (by unfold pA; first | (rw [if_neg (by omega)]) | (have hr := p0.2.2.2.2.1 x (by omega) (by omega); rw [if_pos (by omega)]; omega)))
  · refine jr.iload_n rfl rfl ?_
    refine jr.aload_n rfl rfl ?_
    refine jr.getf (i := 3) (x := C) (v := .int (Int32.ofInt (C))) rfl rfl (Nat.lt_trans (kx_18 k_t).1 (by decide)) (kx_18 k_t).2 (by decide) rfl rfl g_C rfl ?_
    refine jr.icmp_ge rfl rfl (by first | (refine rgb (by assumption) ?_; exact rfl) | omega) (by first | (refine rgb (by assumption) ?_; exact rfl) | omega) (fun h9 => ?_) (fun h9 => ?_)
    · refine jr.iconst rfl ?_
      exact jr.ireturn rfl rfl rfl (q _ (by first | exact rgq rfl | omega) (by unfold pA; first | (rw [if_neg (by omega)]) | (have hr := p0.2.2.2.2.1 x (by omega) (by omega); rw [if_pos (by omega)]; omega)))
    · refine jr.aload_n rfl rfl ?_
      have k1 := kf_18_1 k_t
      refine jr.getf (i := 1) (v := .ref (t + 2)) rfl rfl (Nat.lt_trans (kx_18 k_t).1 (by decide)) (kx_18 k_t).2 (by decide) rfl rfl rfl (jval_ref rfl k1.1) ?_
      refine jr.iload_n rfl rfl ?_
      obtain ⟨v2, e2⟩ : ∃ z_, M ((t + 2)) x = z_ := ⟨_, rfl⟩
      have b2 : 0 ≤ v2 ∧ v2 ≤ 400 := by rw [← e2]; exact (CI.r hC_M k1.2 (by decide) x)
      refine jr.iald (i := x) (x := v2) rfl (Nat.lt_trans (kx_20 k1.2).1 (by decide)) (kx_20 k1.2).2 (by decide) (by omega) (by omega) e2 ?_
      refine jr.goto rfl rfl ?_
      exact jr.ireturn rfl rfl rfl (q _ (by omega) (by unfold pA; first | (rw [if_neg (by omega)]) | (have hr := p0.2.2.2.2.1 x (by omega) (by omega); rw [if_pos (by omega)]; omega)))
theorem c_Headers_fieldCount_x {A : Nat → Option (Nat × (Nat → Int32))} {Q : Option Value → jm → Prop} {M : jm} (hC_M : CI M) {x : Int} (h_x : (-2147483648) ≤ x ∧ x ≤ 2147483647) (q : ∀ (r : Int), 0 ≤ r ∧ r ≤ 11 → (((x < 0 ∨ 11 < x) ∧ r = 0) ∨ ((0 ≤ x ∧ x ≤ 11) ∧ r = xcv_2 x)) → Q (some (.int (Int32.ofInt r))) M) : jc A 1 109 [.int (Int32.ofInt (x))] M Q := by
  refine jc_of (m := xm_109) rfl (Nat.le_of_ble_eq_true rfl) rfl ?_
  refine jr.iload_n rfl rfl ?_
  refine jr.if_lt rfl rfl (by first | (refine rgb (by assumption) ?_; exact rfl) | omega) (fun h1 => ?_) (fun h1 => ?_)
  · refine jr.iconst rfl ?_
    exact jr.ireturn rfl rfl rfl (q _ (by first | exact rgq rfl | omega) (by omega))
  · refine jr.iload_n rfl rfl ?_
    refine jr.gst (v := .ref 1000002) rfl rfl ?_
    refine jr.alens (x := 12) rfl (by decide) rfl rfl ?_
    refine jr.icmp_ge rfl rfl (by first | (refine rgb (by assumption) ?_; exact rfl) | omega) (by first | (refine rgb (by assumption) ?_; exact rfl) | omega) (fun h9 => ?_) (fun h9 => ?_)
    · refine jr.iconst rfl ?_
      exact jr.ireturn rfl rfl rfl (q _ (by first | exact rgq rfl | omega) (by omega))
    · refine jr.gst (v := .ref 1000002) rfl rfl ?_
      refine jr.iload_n rfl rfl ?_
      obtain ⟨v1, e1⟩ : ∃ z_, xcv_2 x = z_ := ⟨_, rfl⟩
      have b1 : 1 ≤ v1 ∧ v1 ≤ 11 := by rw [← e1]; exact xcr_2 (by omega) (by omega)
      refine jr.ials (i := x) v1 rfl (by decide) rfl (by decide) (by omega) (by omega) (by rw [← e1]; exact (Int32.ofInt_toInt _).symm) ?_
      refine jr.goto rfl rfl ?_
      exact jr.ireturn rfl rfl rfl (q _ (by omega) (by omega))
theorem c_Headers_valueOf_x {A : Nat → Option (Nat × (Nat → Int32))} {Q : Option Value → jm → Prop} {f : Int → Int} {N : Int} {M : jm} (hC_M : CI M) {t : Nat} (k_t : kd t = 18) {x : Int} (h_x : (-2147483648) ≤ x ∧ x ≤ 2147483647) {y : Int} (h_y : (-2147483648) ≤ y ∧ y ≤ 2147483647) {C : Int} (g_C : M t 3 = C) (p0 : HS M t f N) (q : ∀ (r : Int), (-9223372036854775808) ≤ r ∧ r ≤ 9223372036854775807 → (r = vA f N C x y) → Q (some (.long (Int64.ofInt r))) M) : jc A 2 110 [.ref (t), .int (Int32.ofInt (x)), .int (Int32.ofInt (y))] M Q := by
  refine jc_of (m := xm_110) rfl (Nat.le_of_ble_eq_true rfl) rfl ?_
  have b_C : 0 ≤ C ∧ C ≤ 12 := by rw [← g_C]; exact (CI.r hC_M k_t (by decide) 3)
  refine jr.aload_n rfl rfl ?_
  refine jr.iload_n rfl rfl ?_
  refine jr_v rfl rfl (Or.inl rfl) rfl rfl (Nat.lt_trans (kx_18 k_t).1 (by decide)) (kx_18 k_t).2 ⟨rfl, Nat.le_of_ble_eq_true rfl, Nat.le_of_ble_eq_true rfl⟩ rfl (jc.deep (c_Headers_kindAt_x hC_M k_t (by omega) g_C p0 (fun r1 z1 w1_0 => ?_)) (Nat.le_of_ble_eq_true rfl))
  have hk0 : r1 = -1 ∨ (0 ≤ x ∧ x < C) := (by have hq := w1_0; unfold kA at hq; split at hq <;> omega)
  refine jr.istore_n (ls' := [_, _, _, _]) rfl (nlt rfl) rfl ?_
  refine jr.iload_n rfl rfl ?_
  refine jr.if_lt rfl rfl (by first | (refine rgb (by assumption) ?_; exact rfl) | omega) (fun h7 => ?_) (fun h7 => ?_)
  · refine jr.ldc2 (x := (-1)) rfl rfl (by decide) ?_
    exact jr.lreturn rfl rfl (q _ (by omega) (vA_out (by first | (exact Or.inr (Or.inl (by omega))) | (exact Or.elim (Decidable.em (0 ≤ x ∧ x < C)) (fun hc => Or.inr (Or.inr (by have hr := (p0.2.2.2.2.1 x hc.1 (by omega)).1.1; have hq := w1_0; unfold kA at hq; rw [if_pos hc] at hq; rw [← hq] at hr ⊢; omega))) (fun hc => Or.inl (by omega))))))
  · refine jr.iload_n rfl rfl ?_
    refine jr.iload_n rfl rfl ?_
    refine jr_s rfl rfl (Or.inl rfl) ⟨Nat.le_of_ble_eq_true rfl, Nat.le_of_ble_eq_true rfl⟩ rfl rfl (jc.deep (c_Headers_fieldCount_x hC_M (by omega) (fun r2 z2 w2_0 => ?_)) (Nat.le_of_ble_eq_true rfl))
    refine jr.icmp_lt rfl rfl (by first | (refine rgb (by assumption) ?_; exact rfl) | omega) (by first | (refine rgb (by assumption) ?_; exact rfl) | omega) (fun h15 => ?_) (fun h15 => ?_)
    · refine jr.iload_n rfl rfl ?_
      refine jr.bipush rfl (jbp _ (nlt rfl)) ?_
      refine jr.icmp_ne rfl rfl (by first | (refine rgb (by assumption) ?_; exact rfl) | omega) (rgl rfl) (fun h25 => ?_) (fun h25 => ?_)
      · have sx25 : r1 ≤ (10 : Int) := by omega
        clear h25
        refine jr.iconst rfl ?_
        refine jr.gst (v := .ref 1000003) rfl rfl ?_
        refine jr.iload_n rfl rfl ?_
        obtain ⟨v3, e3⟩ : ∃ z_, xcv_3 r1 = z_ := ⟨_, rfl⟩
        have b3 : 0 ≤ v3 ∧ v3 ≤ 51 := by rw [← e3]; exact xcr_3 (by omega) (by omega)
        refine jr.ials (i := r1) v3 rfl (by decide) rfl (by decide) (by omega) (by omega) (by rw [← e3]; exact (Int32.ofInt_toInt _).symm) ?_
        have hx0 : 0 ≤ x ∧ x < C := (by have hq := w1_0; unfold kA at hq; split at hq <;> omega)
        have hkx : hX f N x = r1 := (by have hq := w1_0; unfold kA at hq; rw [if_pos hx0] at hq; exact hq.symm)
        have hr := p0.2.2.2.2.1 x hx0.1 (by omega)
        have hl := hok_l hr.1 (fun i h0 h1 => (p0.1 i h0 h1).2) p0.2.2.1.2
        have hN4 := p0.2.2.1
        have hy1 := hr.2.2.1
        have hz1 := hr.2.2.2
        rw [hkx] at hl
        have hvt := vtab (k := r1) (j := y) (by omega) (by omega) (by omega)
        have hff := xff (i := r1) (by omega) (by omega)
        rw [e3] at hvt hff
        refine jr.iload_n rfl rfl ?_
        refine jr.iadd rfl ?_
        refine jr.imul rfl ?_
        refine jr.istore (ls' := [_, _, _, _, _]) rfl (nlt rfl) rfl ?_
        refine jr.aload_n rfl rfl ?_
        obtain ⟨v4, e4⟩ : ∃ z_, M t 7 = z_ := ⟨_, rfl⟩
        have b4 : 0 ≤ v4 ∧ v4 ≤ 597 := by rw [← e4]; exact (CI.r hC_M k_t (by decide) 7)
        have k5 : kd (v4).toNat = 33 := ((congrArg (fun z : Int => kd z.toNat) (show M t 7 = v4 from e4)).symm.trans (CI.x hC_M k_t 7 rfl (by decide)))
        refine jr.getf (i := 7) (x := v4) (v := .ref (v4.toNat)) rfl rfl (Nat.lt_trans (kx_18 k_t).1 (by decide)) (kx_18 k_t).2 (by decide) rfl rfl e4 (jval_mut rfl (kn_18_7 k_t)) ?_
        have k6 := kf_33_0 k5
        refine jr.getf (i := 0) (v := .ref ((v4.toNat) + 1)) rfl rfl (Nat.lt_trans (kx_33 k5).1 (by decide)) (kx_33 k5).2 (by decide) rfl rfl rfl (jval_ref rfl k6.1) ?_
        refine jr.aload_n rfl rfl ?_
        have k7 := kf_18_1 k_t
        refine jr.getf (i := 1) (v := .ref (t + 2)) rfl rfl (Nat.lt_trans (kx_18 k_t).1 (by decide)) (kx_18 k_t).2 (by decide) rfl rfl rfl (jval_ref rfl k7.1) ?_
        refine jr.iload_n rfl rfl ?_
        obtain ⟨v8, e8⟩ : ∃ z_, M ((t + 2)) x = z_ := ⟨_, rfl⟩
        have b8 : 0 ≤ v8 ∧ v8 ≤ 400 := by rw [← e8]; exact (CI.r hC_M k7.2 (by decide) x)
        refine jr.iald (i := x) (x := v8) rfl (Nat.lt_trans (kx_20 k7.2).1 (by decide)) (kx_20 k7.2).2 (by decide) (by omega) (by omega) e8 ?_
        refine jr.gst (v := .ref 1000004) rfl rfl ?_
        refine jr.iload rfl rfl ?_
        obtain ⟨v9, e9⟩ : ∃ z_, xcv_4 (4 * (v3 + y)) = z_ := ⟨_, rfl⟩
        have b9 : 0 ≤ v9 ∧ v9 ≤ 64 := by rw [← e9]; exact xcr_4 (by omega) (by omega)
        refine jr.ials (i := (4 * (v3 + y))) v9 rfl (by decide) rfl (by decide) (by omega) (by omega) (by rw [← e9]; exact (Int32.ofInt_toInt _).symm) ?_
        refine jr.iadd rfl ?_
        refine jr.gst (v := .ref 1000004) rfl rfl ?_
        refine jr.iload rfl rfl ?_
        refine jr.iconst rfl ?_
        refine jr.iadd rfl ?_
        obtain ⟨v10, e10⟩ : ∃ z_, xcv_4 ((4 * (v3 + y)) + 1) = z_ := ⟨_, rfl⟩
        have b10 : 0 ≤ v10 ∧ v10 ≤ 64 := by rw [← e10]; exact xcr_4 (by omega) (by omega)
        refine jr.ials (i := ((4 * (v3 + y)) + 1)) v10 rfl (by decide) rfl (by decide) (by omega) (by omega) (by rw [← e10]; exact (Int32.ofInt_toInt _).symm) ?_
        refine jr_s rfl rfl (Or.inr rfl) ⟨Nat.le_of_ble_eq_true rfl, Nat.le_of_ble_eq_true rfl⟩ rfl rfl (jc.deep (c_PacketWall_numberAt_pw hC_M k6.2 (by omega) (by omega) (by omega) (by have hq := p0.1; rw [e4] at hq; exact hq) (fun r11 z11 w11_0 => ?_)) (Nat.le_of_ble_eq_true rfl))
        refine jr.lstore (ls' := [_, _, _, _, _, _]) rfl (nlt rfl) rfl ?_
        refine jr.gst (v := .ref 1000004) rfl rfl ?_
        refine jr.iload rfl rfl ?_
        refine jr.iconst rfl ?_
        refine jr.iadd rfl ?_
        obtain ⟨v12, e12⟩ : ∃ z_, xcv_4 ((4 * (v3 + y)) + 3) = z_ := ⟨_, rfl⟩
        have b12 : 0 ≤ v12 ∧ v12 ≤ 64 := by rw [← e12]; exact xcr_4 (by omega) (by omega)
        refine jr.ials (i := ((4 * (v3 + y)) + 3)) v12 rfl (by decide) rfl (by decide) (by omega) (by omega) (by rw [← e12]; exact (Int32.ofInt_toInt _).symm) ?_
        refine jr.istore (ls' := [_, _, _, _, _, _, _]) rfl (nlt rfl) rfl ?_
        refine jr.iload rfl rfl ?_
        refine jr.bipush rfl (jbp _ (nlt rfl)) ?_
        refine jr.icmp_lt rfl rfl (by first | (refine rgb (by assumption) ?_; exact rfl) | omega) (rgl rfl) (fun h94 => ?_) (fun h94 => ?_)
        · refine jr.lload rfl rfl ?_
          refine jr.gst (v := .ref 1000004) rfl rfl ?_
          refine jr.iload rfl rfl ?_
          refine jr.iconst rfl ?_
          refine jr.iadd rfl ?_
          obtain ⟨v13, e13⟩ : ∃ z_, xcv_4 ((4 * (v3 + y)) + 2) = z_ := ⟨_, rfl⟩
          have b13 : 0 ≤ v13 ∧ v13 ≤ 64 := by rw [← e13]; exact xcr_4 (by omega) (by omega)
          refine jr.ials (i := ((4 * (v3 + y)) + 2)) v13 rfl (by decide) rfl (by decide) (by omega) (by omega) (by rw [← e13]; exact (Int32.ofInt_toInt _).symm) ?_
          have hnr := nbs_r4 (f := f) (y := v8 + v9) (n := v10.toNat) (by omega) (fun i h0 h1 => (p0.1 i (by omega) (by omega)).2)
          have hraw : r11 = nbs f (v8 + v9) v10.toNat := (by rw [w11_0, jl_w_id (by omega)])
          refine jr.lushr rfl ?_
          have b14 : jl_ushr r11 v13 = r11 / ((2 ^ v13.toNat : Nat) : Int) ∧ 0 ≤ jl_ushr r11 v13 ∧ jl_ushr r11 v13 ≤ r11 := jl_ushr_xb (by omega) (by omega)
          generalize jl_ushr r11 v13 = v14 at b14 ⊢
          refine jr.lconst (x := 1) rfl (by decide) ?_
          refine jr.iload rfl rfl ?_
          refine jr.lshl rfl ?_
          have b15 : jl_shl 1 v12 = ((2 ^ v12.toNat : Nat) : Int) ∧ 1 ≤ jl_shl 1 v12 ∧ jl_shl 1 v12 ≤ 4294967296 := jl_shl_1 (by omega)
          generalize jl_shl 1 v12 = v15 at b15 ⊢
          refine jr.lconst (x := 1) rfl (by decide) ?_
          refine jr.lsub rfl ?_
          refine jr.land rfl ?_
          have b16 : jl_and v14 (v15 - 1) = v14 % v15 ∧ 0 ≤ jl_and v14 (v15 - 1) ∧ jl_and v14 (v15 - 1) ≤ v14 := jl_and_p (by omega) (by omega) b15.1
          generalize jl_and v14 (v15 - 1) = v16 at b16 ⊢
          exact jr.lreturn rfl rfl (q _ (by omega) (vA_in hx0 hkx (show hY f N x = v8 by omega) ⟨by omega, by omega⟩ (by unfold vof; rw [if_neg (by omega), e3, e9, e10, e12, if_neg (by omega), e13, b16.1, b14.1, b15.1, hraw])))
        · refine jr.lload rfl rfl ?_
          refine jr.goto rfl rfl ?_
          exact jr.lreturn rfl rfl (q _ (by omega) (vA_in hx0 hkx (show hY f N x = v8 by omega) ⟨by omega, by omega⟩ (by unfold vof; rw [if_neg (by omega), e3, e9, e10, e12, if_pos (by omega)]; exact w11_0)))
      · refine jr.aload_n rfl rfl ?_
        have k17 := kf_18_2 k_t
        refine jr.getf (i := 2) (v := .ref (t + 3)) rfl rfl (Nat.lt_trans (kx_18 k_t).1 (by decide)) (kx_18 k_t).2 (by decide) rfl rfl rfl (jval_ref rfl k17.1) ?_
        refine jr.iload_n rfl rfl ?_
        obtain ⟨v18, e18⟩ : ∃ z_, M ((t + 3)) x = z_ := ⟨_, rfl⟩
        have b18 : (-400) ≤ v18 ∧ v18 ≤ 2048 := by rw [← e18]; exact (CI.r hC_M k17.2 (by decide) x)
        refine jr.iald (i := x) (x := v18) rfl (Nat.lt_trans (kx_21 k17.2).1 (by decide)) (kx_21 k17.2).2 (by decide) (by omega) (by omega) e18 ?_
        have hx0 : 0 ≤ x ∧ x < C := (by have hq := w1_0; unfold kA at hq; split at hq <;> omega)
        have hkx : hX f N x = r1 := (by have hq := w1_0; unfold kA at hq; rw [if_pos hx0] at hq; exact hq.symm)
        have hr := p0.2.2.2.2.1 x hx0.1 (by omega)
        have hl := hok_l hr.1 (fun i h0 h1 => (p0.1 i h0 h1).2) p0.2.2.1.2
        have hN4 := p0.2.2.1
        have hy1 := hr.2.2.1
        have hz1 := hr.2.2.2
        rw [hkx] at hl
        refine jr.i2l rfl (by omega) ?_
        exact jr.lreturn rfl rfl (q _ (by omega) (vA_in hx0 hkx rfl ⟨by omega, by omega⟩ (by unfold vof; rw [if_pos (by omega)]; omega)))
    · refine jr.ldc2 (x := (-1)) rfl rfl (by decide) ?_
      exact jr.lreturn rfl rfl (q _ (by omega) (vA_out (by first | (exact Or.inr (Or.inl (by omega))) | (exact Or.elim (Decidable.em (0 ≤ x ∧ x < C)) (fun hc => Or.inr (Or.inr (by have hr := (p0.2.2.2.2.1 x hc.1 (by omega)).1.1; have hq := w1_0; unfold kA at hq; rw [if_pos hc] at hq; rw [← hq] at hr ⊢; omega))) (fun hc => Or.inl (by omega))))))
end
section
/-! ===== the class: searches among headers ===== -/
noncomputable def nxN (f : Int → Int) (N : Int) : Nat → Int → Int
  | 0, _ => -1
  | n + 1, i => if hX f N i = 2 ∨ hX f N i = 3 then i else nxN f N n (i + 1)
noncomputable def nxI (f : Int → Int) (N : Int) : Nat → Int → Int
  | 0, _ => -1
  | n + 1, i => if hX f N i = 4 ∨ hX f N i = 5 then nxI f N n (i + 1) else i
noncomputable def nxD (f : Int → Int) (N : Int) : Nat → Int
  | 0 => -1
  | n + 1 => if hX f N (n : Int) = 2 ∨ hX f N (n : Int) = 3 then (n : Int) else nxD f N n
theorem nxN_s {f : Int → Int} {N C i : Int} (h : i < C) : nxN f N (C - i).toNat i = if hX f N i = 2 ∨ hX f N i = 3 then i else nxN f N (C - (i + 1)).toNat (i + 1) := by
  obtain ⟨n, hn⟩ : ∃ n : Nat, C = i + 1 + n := ⟨(C - i - 1).toNat, by omega⟩
  subst hn
  rw [show (i + 1 + (n : Int) - i).toNat = n + 1 by omega, show (i + 1 + (n : Int) - (i + 1)).toNat = n by omega]
  rfl
theorem nxN_e {f : Int → Int} {N C i : Int} (h : C ≤ i) : nxN f N (C - i).toNat i = -1 := by
  rw [show (C - i).toNat = 0 by omega]
  rfl
theorem nxI_s {f : Int → Int} {N C i : Int} (h : i < C) : nxI f N (C - i).toNat i = if hX f N i = 4 ∨ hX f N i = 5 then nxI f N (C - (i + 1)).toNat (i + 1) else i := by
  obtain ⟨n, hn⟩ : ∃ n : Nat, C = i + 1 + n := ⟨(C - i - 1).toNat, by omega⟩
  subst hn
  rw [show (i + 1 + (n : Int) - i).toNat = n + 1 by omega, show (i + 1 + (n : Int) - (i + 1)).toNat = n by omega]
  rfl
theorem nxI_e {f : Int → Int} {N C i : Int} (h : C ≤ i) : nxI f N (C - i).toNat i = -1 := by
  rw [show (C - i).toNat = 0 by omega]
  rfl
theorem nxD_s {f : Int → Int} {N i : Int} (h : 0 ≤ i) : nxD f N (i + 1).toNat = if hX f N i = 2 ∨ hX f N i = 3 then i else nxD f N i.toNat := by
  obtain ⟨n, rfl⟩ := Int.eq_ofNat_of_zero_le h
  rw [show ((n : Int) + 1).toNat = n + 1 by omega, show ((n : Int)).toNat = n by omega]
  rfl
theorem nxD_e {f : Int → Int} {N i : Int} (h : i < 0) : nxD f N (i + 1).toNat = -1 := by
  rw [show (i + 1).toNat = 0 by omega]
  rfl
/-- the first net, the header behind it -/
noncomputable def ntf (f : Int → Int) (N C : Int) : Int := nxN f N C.toNat 0
noncomputable def inf (f : Int → Int) (N C x : Int) : Int := nxI f N (C - (x + 1)).toNat (x + 1)
theorem nxN_r (f : Int → Int) (N : Int) : ∀ (n : Nat) (i : Int), 0 ≤ i → nxN f N n i = -1 ∨ (i ≤ nxN f N n i ∧ nxN f N n i < i + n ∧ (hX f N (nxN f N n i) = 2 ∨ hX f N (nxN f N n i) = 3)) := by
  intro n
  induction n with
  | zero => intro i _; exact Or.inl rfl
  | succ n ih =>
    intro i h0
    unfold nxN
    by_cases q : hX f N i = 2 ∨ hX f N i = 3
    · rw [if_pos q]
      exact Or.inr ⟨Int.le_refl _, by omega, q⟩
    · rw [if_neg q]
      rcases ih (i + 1) (by omega) with r | r
      · exact Or.inl r
      · exact Or.inr ⟨by omega, by omega, r.2.2⟩
theorem ntf_r {f : Int → Int} {N C : Int} (hC : 0 ≤ C) : ntf f N C = -1 ∨ ((0 ≤ ntf f N C ∧ ntf f N C < C) ∧ (hX f N (ntf f N C) = 2 ∨ hX f N (ntf f N C) = 3)) := by
  rcases nxN_r f N C.toNat 0 (Int.le_refl _) with r | r
  · exact Or.inl r
  · exact Or.inr ⟨⟨r.1, by unfold ntf; omega⟩, r.2.2⟩
theorem nxI_r (f : Int → Int) (N : Int) : ∀ (n : Nat) (i : Int), 0 ≤ i → nxI f N n i = -1 ∨ (i ≤ nxI f N n i ∧ nxI f N n i < i + n ∧ ¬ (hX f N (nxI f N n i) = 4 ∨ hX f N (nxI f N n i) = 5)) := by
  intro n
  induction n with
  | zero => intro i _; exact Or.inl rfl
  | succ n ih =>
    intro i h0
    unfold nxI
    by_cases q : hX f N i = 4 ∨ hX f N i = 5
    · rw [if_pos q]
      rcases ih (i + 1) (by omega) with r | r
      · exact Or.inl r
      · exact Or.inr ⟨by omega, by omega, r.2.2⟩
    · rw [if_neg q]
      exact Or.inr ⟨Int.le_refl _, by omega, q⟩
theorem inf_r {f : Int → Int} {N C x : Int} (hx : 0 ≤ x) : inf f N C x = -1 ∨ ((x < inf f N C x ∧ inf f N C x < C) ∧ ¬ (hX f N (inf f N C x) = 4 ∨ hX f N (inf f N C x) = 5)) := by
  rcases nxI_r f N (C - (x + 1)).toNat (x + 1) (by omega) with r | r
  · exact Or.inl r
  · refine Or.inr ⟨⟨?_, ?_⟩, r.2.2⟩
    · unfold inf; omega
    · by_cases q : x + 1 < C
      · unfold inf; omega
      · have := nxI_e (f := f) (N := N) (C := C) (i := x + 1) (by omega)
        have r1 := r.1
        rw [this] at r1
        omega
theorem nxD_r (f : Int → Int) (N : Int) : ∀ n : Nat, nxD f N n = -1 ∨ (0 ≤ nxD f N n ∧ nxD f N n < n ∧ (hX f N (nxD f N n) = 2 ∨ hX f N (nxD f N n) = 3)) := by
  intro n
  induction n with
  | zero => exact Or.inl rfl
  | succ n ih =>
    unfold nxD
    by_cases q : hX f N (n : Int) = 2 ∨ hX f N (n : Int) = 3
    · rw [if_pos q]
      exact Or.inr ⟨by omega, by omega, q⟩
    · rw [if_neg q]
      rcases ih with r | r
      · exact Or.inl r
      · exact Or.inr ⟨r.1, by omega, r.2.2⟩
/-- flags, offset of a piece -/
noncomputable def mrf (f : Int → Int) (N C x : Int) : Int := vA f N C x (if kA f N C x = 2 then 4 else 2) % 2
noncomputable def ofs (f : Int → Int) (N C x : Int) : Int := 8 * vA f N C x (if kA f N C x = 2 then 5 else 1)
/-- the header that makes a packet a piece -/
noncomputable def pcf (f : Int → Int) (N C : Int) : Int := if ntf f N C = -1 then -1 else if kA f N C (ntf f N C) = 2 then (if mrf f N C (ntf f N C) = 1 ∨ 0 < ofs f N C (ntf f N C) then ntf f N C else -1) else if kA f N C (inf f N C (ntf f N C)) = 6 then inf f N C (ntf f N C) else -1
noncomputable def adf (f : Int → Int) (N C x s : Int) : Int := vA f N C x ((if kA f N C x = 2 then 9 else 5) + s)
theorem kA_i {f : Int → Int} {N C x : Int} (h : 0 ≤ x ∧ x < C) : kA f N C x = hX f N x := by
  unfold kA
  rw [if_pos h]
theorem c_PacketWall_isCarriedKind_x {A : Nat → Option (Nat × (Nat → Int32))} {Q : Option Value → jm → Prop} {M : jm} (hC_M : CI M) {x : Int} (h_x : (-2147483648) ≤ x ∧ x ≤ 2147483647) (q : ∀ (r : Int), 0 ≤ r ∧ r ≤ 1 → (r = 0 ∨ (7 ≤ x ∧ x ≤ 9)) → ((r = 1 ∧ (7 ≤ x ∧ x ≤ 9)) ∨ (r = 0 ∧ (x < 7 ∨ 9 < x))) → Q (some (.int (Int32.ofInt r))) M) : jc A 1 51 [.int (Int32.ofInt (x))] M Q := by
  refine jc_of (m := xm_51) rfl (Nat.le_of_ble_eq_true rfl) rfl ?_
  refine jr.iload_n rfl rfl ?_
  refine jr.bipush rfl (jbp _ (nlt rfl)) ?_
  refine jr.icmp_eq rfl rfl (by first | (refine rgb (by assumption) ?_; exact rfl) | omega) (rgl rfl) (fun h3 => ?_) (fun h3 => ?_)
  · refine jr.iconst rfl ?_
    refine jr.goto rfl rfl ?_
    exact jr.ireturn rfl rfl rfl (q _ (by first | exact rgq rfl | omega) (by omega) (by omega))
  · refine jr.iload_n rfl rfl ?_
    refine jr.bipush rfl (jbp _ (nlt rfl)) ?_
    refine jr.icmp_eq rfl rfl (by first | (refine rgb (by assumption) ?_; exact rfl) | omega) (rgl rfl) (fun h9 => ?_) (fun h9 => ?_)
    · refine jr.iconst rfl ?_
      refine jr.goto rfl rfl ?_
      exact jr.ireturn rfl rfl rfl (q _ (by first | exact rgq rfl | omega) (by omega) (by omega))
    · refine jr.iload_n rfl rfl ?_
      refine jr.bipush rfl (jbp _ (nlt rfl)) ?_
      refine jr.icmp_ne rfl rfl (by first | (refine rgb (by assumption) ?_; exact rfl) | omega) (rgl rfl) (fun h15 => ?_) (fun h15 => ?_)
      · refine jr.iconst rfl ?_
        exact jr.ireturn rfl rfl rfl (q _ (by first | exact rgq rfl | omega) (by omega) (by omega))
      · refine jr.iconst rfl ?_
        refine jr.goto rfl rfl ?_
        exact jr.ireturn rfl rfl rfl (q _ (by first | exact rgq rfl | omega) (by omega) (by omega))
theorem c_Headers_firstOf_x_L2 {A : Nat → Option (Nat × (Nat → Int32))} {Q : Option Value → jm → Prop} {f : Int → Int} {N : Int} {M : jm} (hC_M : CI M) {t : Nat} (k_t : kd t = 18) {C : Int} {x : Int} (q : ∀ (r : Int), (-1) ≤ r ∧ r ≤ 11 → (r = ntf f N C) → Q (some (.int (Int32.ofInt r))) M) : ∀ (nM : Nat) (i : Int), 12 ≤ x ∧ x ≤ 12 → 0 ≤ i ∧ i ≤ 12 → M t 3 = C → (HS M t f N) → (ntf f N C = nxN f N (C - i).toNat i) → 12 - i ≤ nM → jr A 1 xm_111 2 [(1, .int (Int32.ofInt (x))), (2, .int (Int32.ofInt (i))), (0, .ref (t))] [] M Q := by
  intro nM
  induction nM using Nat.strongRecOn with
  | ind nM ih =>
    intro i h_x h_i g_C hy0 hy1 hm
    have b_C : 0 ≤ C ∧ C ≤ 12 := by rw [← g_C]; exact (CI.r hC_M k_t (by decide) 3)
    refine jr.iload_n rfl rfl ?_
    refine jr.aload_n rfl rfl ?_
    refine jr.getf (i := 3) (x := C) (v := .int (Int32.ofInt (C))) rfl rfl (Nat.lt_trans (kx_18 k_t).1 (by decide)) (kx_18 k_t).2 (by decide) rfl rfl g_C rfl ?_
    refine jr.icmp_ge rfl rfl (by first | (refine rgb (by assumption) ?_; exact rfl) | omega) (by first | (refine rgb (by assumption) ?_; exact rfl) | omega) (fun h7 => ?_) (fun h7 => ?_)
    · refine jr.iconst rfl ?_
      exact jr.ireturn rfl rfl rfl (q _ (by first | exact rgq rfl | omega) (by rw [hy1, nxN_e (by omega)]))
    · refine jr.aload_n rfl rfl ?_
      have k1 := kf_18_0 k_t
      refine jr.getf (i := 0) (v := .ref (t + 1)) rfl rfl (Nat.lt_trans (kx_18 k_t).1 (by decide)) (kx_18 k_t).2 (by decide) rfl rfl rfl (jval_ref rfl k1.1) ?_
      refine jr.iload_n rfl rfl ?_
      obtain ⟨v2, e2⟩ : ∃ z_, M ((t + 1)) i = z_ := ⟨_, rfl⟩
      have b2 : 0 ≤ v2 ∧ v2 ≤ 11 := by rw [← e2]; exact (CI.r hC_M k1.2 (by decide) i)
      refine jr.iald (i := i) (x := v2) rfl (Nat.lt_trans (kx_19 k1.2).1 (by decide)) (kx_19 k1.2).2 (by decide) (by omega) (by omega) e2 ?_
      have hr := hy0.2.2.2.2.1 i (by omega) (by omega)
      refine jr.iload_n rfl rfl ?_
      refine jr.icmp_eq rfl rfl (by first | (refine rgb (by assumption) ?_; exact rfl) | omega) (by first | (refine rgb (by assumption) ?_; exact rfl) | omega) (fun h17 => ?_) (fun h17 => ?_)
      · exact absurd h17 (by omega)
      · refine jr.iload_n rfl rfl ?_
        refine jr.bipush rfl (jbp _ (nlt rfl)) ?_
        refine jr.icmp_ne rfl rfl (by first | (refine rgb (by assumption) ?_; exact rfl) | omega) (rgl rfl) (fun h23 => ?_) (fun h23 => ?_)
        · exact absurd h23 (by omega)
        · refine jr.aload_n rfl rfl ?_
          have k3 := kf_18_0 k_t
          refine jr.getf (i := 0) (v := .ref (t + 1)) rfl rfl (Nat.lt_trans (kx_18 k_t).1 (by decide)) (kx_18 k_t).2 (by decide) rfl rfl rfl (jval_ref rfl k3.1) ?_
          refine jr.iload_n rfl rfl ?_
          refine jr.iald (i := i) (x := v2) rfl (Nat.lt_trans (kx_19 k3.2).1 (by decide)) (kx_19 k3.2).2 (by decide) (by omega) (by omega) e2 ?_
          refine jr_s rfl rfl (Or.inr rfl) ⟨Nat.le_of_ble_eq_true rfl, Nat.le_of_ble_eq_true rfl⟩ rfl rfl (jc.deep (c_PacketWall_isNetKind_x hC_M (by omega) (fun r4 z4 w4_0 w4_1 => ?_)) (Nat.le_of_ble_eq_true rfl))
          refine jr.if_ne rfl rfl (by first | (refine rgb (by assumption) ?_; exact rfl) | omega) (fun h35 => ?_) (fun h35 => ?_)
          · have sx35 : (1 : Int) ≤ r4 := by omega
            clear h35
            refine jr.iload_n rfl rfl ?_
            exact jr.ireturn rfl rfl rfl (q _ (by omega) (by rw [hy1, nxN_s (by omega), if_pos (by omega)]))
          · refine jr.iload_n rfl rfl ?_
            refine jr.bipush rfl (jbp _ (nlt rfl)) ?_
            refine jr.icmp_ne rfl rfl (by first | (refine rgb (by assumption) ?_; exact rfl) | omega) (rgl rfl) (fun h41 => ?_) (fun h41 => ?_)
            · refine jr.iinc (ls' := [_, _, _]) rfl rfl (nlt rfl) rfl ?_
              refine jr.goto rfl rfl ?_
              refine jr.pick (ls := [_, _, _]) [1, 0, 2] rfl rfl ?_
              exact ih (nM - 1) (by omega) (i + 1) (by omega) (by omega) g_C hy0 (by rw [hy1, nxN_s (by omega), if_neg (by omega)]) (by omega)
            · exact absurd (by omega) h41
theorem c_Headers_firstOf_x {A : Nat → Option (Nat × (Nat → Int32))} {Q : Option Value → jm → Prop} {f : Int → Int} {N : Int} {M : jm} (hC_M : CI M) {t : Nat} (k_t : kd t = 18) {x : Int} (h_x : 12 ≤ x ∧ x ≤ 12) {C : Int} (g_C : M t 3 = C) (p0 : HS M t f N) (q : ∀ (r : Int), (-1) ≤ r ∧ r ≤ 11 → (r = ntf f N C) → Q (some (.int (Int32.ofInt r))) M) : jc A 2 111 [.ref (t), .int (Int32.ofInt (x))] M Q := by
  refine jc_of (m := xm_111) rfl (Nat.le_of_ble_eq_true rfl) rfl ?_
  have b_C : 0 ≤ C ∧ C ≤ 12 := by rw [← g_C]; exact (CI.r hC_M k_t (by decide) 3)
  refine jr.iconst rfl ?_
  refine jr.istore_n (ls' := [_, _, _]) rfl (nlt rfl) rfl ?_
  refine jr.pick (ls := [_, _, _]) [2, 0, 1] rfl rfl ?_
  exact c_Headers_firstOf_x_L2 hC_M k_t q 12 0 (by omega) (by omega) g_C p0 (by unfold ntf; rw [show C - 0 = C from by omega]) (by omega)
theorem c_Headers_innerOf_x_L4 {A : Nat → Option (Nat × (Nat → Int32))} {Q : Option Value → jm → Prop} {f : Int → Int} {N : Int} {M : jm} (hC_M : CI M) {t : Nat} (k_t : kd t = 18) {C : Int} {x : Int} (q : ∀ (r : Int), (-1) ≤ r ∧ r ≤ 11 → (r = inf f N C x) → Q (some (.int (Int32.ofInt r))) M) : ∀ (nM : Nat) (i : Int), 0 ≤ i ∧ i ≤ 12 → M t 3 = C → (HS M t f N) → (inf f N C x = nxI f N (C - i).toNat i) → 12 - i ≤ nM → jr A 0 xm_114 4 [(2, .int (Int32.ofInt (i))), (0, .ref (t))] [] M Q := by
  intro nM
  induction nM using Nat.strongRecOn with
  | ind nM ih =>
    intro i h_i g_C hy0 hy1 hm
    have b_C : 0 ≤ C ∧ C ≤ 12 := by rw [← g_C]; exact (CI.r hC_M k_t (by decide) 3)
    refine jr.iload_n rfl rfl ?_
    refine jr.aload_n rfl rfl ?_
    refine jr.getf (i := 3) (x := C) (v := .int (Int32.ofInt (C))) rfl rfl (Nat.lt_trans (kx_18 k_t).1 (by decide)) (kx_18 k_t).2 (by decide) rfl rfl g_C rfl ?_
    refine jr.icmp_ge rfl rfl (by first | (refine rgb (by assumption) ?_; exact rfl) | omega) (by first | (refine rgb (by assumption) ?_; exact rfl) | omega) (fun h9 => ?_) (fun h9 => ?_)
    · refine jr.iload_n rfl rfl ?_
      refine jr.aload_n rfl rfl ?_
      refine jr.getf (i := 3) (x := C) (v := .int (Int32.ofInt (C))) rfl rfl (Nat.lt_trans (kx_18 k_t).1 (by decide)) (kx_18 k_t).2 (by decide) rfl rfl g_C rfl ?_
      refine jr.icmp_ge rfl rfl (by first | (refine rgb (by assumption) ?_; exact rfl) | omega) (by first | (refine rgb (by assumption) ?_; exact rfl) | omega) (fun h43 => ?_) (fun h43 => ?_)
      · refine jr.iconst rfl ?_
        exact jr.ireturn rfl rfl rfl (q _ (by first | exact rgq rfl | omega) (by rw [hy1, nxI_e (by omega)]))
      · refine jr.iload_n rfl rfl ?_
        refine jr.goto rfl rfl ?_
        exact jr.ireturn rfl rfl rfl (q _ (by omega) (by rw [hy1, nxI_s (by omega), if_neg (by omega)]))
    · refine jr.aload_n rfl rfl ?_
      have k1 := kf_18_0 k_t
      refine jr.getf (i := 0) (v := .ref (t + 1)) rfl rfl (Nat.lt_trans (kx_18 k_t).1 (by decide)) (kx_18 k_t).2 (by decide) rfl rfl rfl (jval_ref rfl k1.1) ?_
      refine jr.iload_n rfl rfl ?_
      obtain ⟨v2, e2⟩ : ∃ z_, M ((t + 1)) i = z_ := ⟨_, rfl⟩
      have b2 : 0 ≤ v2 ∧ v2 ≤ 11 := by rw [← e2]; exact (CI.r hC_M k1.2 (by decide) i)
      refine jr.iald (i := i) (x := v2) rfl (Nat.lt_trans (kx_19 k1.2).1 (by decide)) (kx_19 k1.2).2 (by decide) (by omega) (by omega) e2 ?_
      have hr := hy0.2.2.2.2.1 i (by omega) (by omega)
      refine jr.iconst rfl ?_
      refine jr.icmp_eq rfl rfl (by first | (refine rgb (by assumption) ?_; exact rfl) | omega) (rgl rfl) (fun h19 => ?_) (fun h19 => ?_)
      · refine jr.iinc (ls' := [_, _]) rfl rfl (nlt rfl) rfl ?_
        refine jr.goto rfl rfl ?_
        refine jr.pick (ls := [_, _]) [0, 1] rfl rfl ?_
        exact ih (nM - 1) (by omega) (i + 1) (by omega) g_C hy0 (by rw [hy1, nxI_s (by omega), if_pos (by omega)]) (by omega)
      · refine jr.aload_n rfl rfl ?_
        have k3 := kf_18_0 k_t
        refine jr.getf (i := 0) (v := .ref (t + 1)) rfl rfl (Nat.lt_trans (kx_18 k_t).1 (by decide)) (kx_18 k_t).2 (by decide) rfl rfl rfl (jval_ref rfl k3.1) ?_
        refine jr.iload_n rfl rfl ?_
        refine jr.iald (i := i) (x := v2) rfl (Nat.lt_trans (kx_19 k3.2).1 (by decide)) (kx_19 k3.2).2 (by decide) (by omega) (by omega) e2 ?_
        refine jr.iconst rfl ?_
        refine jr.icmp_ne rfl rfl (by first | (refine rgb (by assumption) ?_; exact rfl) | omega) (rgl rfl) (fun h29 => ?_) (fun h29 => ?_)
        · refine jr.iload_n rfl rfl ?_
          refine jr.aload_n rfl rfl ?_
          refine jr.getf (i := 3) (x := C) (v := .int (Int32.ofInt (C))) rfl rfl (Nat.lt_trans (kx_18 k_t).1 (by decide)) (kx_18 k_t).2 (by decide) rfl rfl g_C rfl ?_
          refine jr.icmp_ge rfl rfl (by first | (refine rgb (by assumption) ?_; exact rfl) | omega) (by first | (refine rgb (by assumption) ?_; exact rfl) | omega) (fun h43 => ?_) (fun h43 => ?_)
          · refine jr.iconst rfl ?_
            exact jr.ireturn rfl rfl rfl (q _ (by first | exact rgq rfl | omega) (by rw [hy1, nxI_e (by omega)]))
          · refine jr.iload_n rfl rfl ?_
            refine jr.goto rfl rfl ?_
            exact jr.ireturn rfl rfl rfl (q _ (by omega) (by rw [hy1, nxI_s (by omega), if_neg (by omega)]))
        · refine jr.iinc (ls' := [_, _]) rfl rfl (nlt rfl) rfl ?_
          refine jr.goto rfl rfl ?_
          refine jr.pick (ls := [_, _]) [0, 1] rfl rfl ?_
          exact ih (nM - 1) (by omega) (i + 1) (by omega) g_C hy0 (by rw [hy1, nxI_s (by omega), if_pos (by omega)]) (by omega)
theorem c_Headers_innerOf_x {A : Nat → Option (Nat × (Nat → Int32))} {Q : Option Value → jm → Prop} {f : Int → Int} {N : Int} {M : jm} (hC_M : CI M) {t : Nat} (k_t : kd t = 18) {x : Int} (h_x : 0 ≤ x ∧ x ≤ 11) {C : Int} (g_C : M t 3 = C) (p0 : HS M t f N) (q : ∀ (r : Int), (-1) ≤ r ∧ r ≤ 11 → (r = inf f N C x) → Q (some (.int (Int32.ofInt r))) M) : jc A 1 114 [.ref (t), .int (Int32.ofInt (x))] M Q := by
  refine jc_of (m := xm_114) rfl (Nat.le_of_ble_eq_true rfl) rfl ?_
  have b_C : 0 ≤ C ∧ C ≤ 12 := by rw [← g_C]; exact (CI.r hC_M k_t (by decide) 3)
  refine jr.iload_n rfl rfl ?_
  refine jr.iconst rfl ?_
  refine jr.iadd rfl ?_
  refine jr.istore_n (ls' := [_, _, _]) rfl (nlt rfl) rfl ?_
  refine jr.pick (ls := [_, _]) [0, 1] rfl rfl ?_
  exact c_Headers_innerOf_x_L4 hC_M k_t q 12 (x + 1) (by omega) g_C p0 rfl (by omega)
theorem c_Headers_nearestNet_x_L4 {A : Nat → Option (Nat × (Nat → Int32))} {Q : Option Value → jm → Prop} {f : Int → Int} {N : Int} {M : jm} (hC_M : CI M) {t : Nat} (k_t : kd t = 18) {C : Int} {x : Int} (q : ∀ (r : Int), (-1) ≤ r ∧ r ≤ 11 → (r = nxD f N x.toNat) → Q (some (.int (Int32.ofInt r))) M) : ∀ (nM : Nat) (i : Int), (-1) ≤ i ∧ i ≤ 11 → M t 3 = C → (∀ i : Int, 0 ≤ i → i < C → M (t + 1) i = hX f N i) → (nxD f N x.toNat = nxD f N (i + 1).toNat) → (i < C) → i + 1 ≤ nM → jr A 1 xm_122 4 [(2, .int (Int32.ofInt (i))), (0, .ref (t))] [] M Q := by
  intro nM
  induction nM using Nat.strongRecOn with
  | ind nM ih =>
    intro i h_i g_C hy0 hy1 hy2 hm
    have b_C : 0 ≤ C ∧ C ≤ 12 := by rw [← g_C]; exact (CI.r hC_M k_t (by decide) 3)
    refine jr.iload_n rfl rfl ?_
    refine jr.if_lt rfl rfl (by first | (refine rgb (by assumption) ?_; exact rfl) | omega) (fun h5 => ?_) (fun h5 => ?_)
    · refine jr.iconst rfl ?_
      exact jr.ireturn rfl rfl rfl (q _ (by first | exact rgq rfl | omega) (by rw [hy1, nxD_e (by omega)]))
    · refine jr.aload_n rfl rfl ?_
      have k1 := kf_18_0 k_t
      refine jr.getf (i := 0) (v := .ref (t + 1)) rfl rfl (Nat.lt_trans (kx_18 k_t).1 (by decide)) (kx_18 k_t).2 (by decide) rfl rfl rfl (jval_ref rfl k1.1) ?_
      refine jr.iload_n rfl rfl ?_
      obtain ⟨v2, e2⟩ : ∃ z_, M ((t + 1)) i = z_ := ⟨_, rfl⟩
      have b2 : 0 ≤ v2 ∧ v2 ≤ 11 := by rw [← e2]; exact (CI.r hC_M k1.2 (by decide) i)
      refine jr.iald (i := i) (x := v2) rfl (Nat.lt_trans (kx_19 k1.2).1 (by decide)) (kx_19 k1.2).2 (by decide) (by omega) (by omega) e2 ?_
      have hr := hy0 i (by omega) (by omega)
      refine jr_s rfl rfl (Or.inr rfl) ⟨Nat.le_of_ble_eq_true rfl, Nat.le_of_ble_eq_true rfl⟩ rfl rfl (jc.deep (c_PacketWall_isNetKind_x hC_M (by omega) (fun r3 z3 w3_0 w3_1 => ?_)) (Nat.le_of_ble_eq_true rfl))
      refine jr.if_eq rfl rfl (by first | (refine rgb (by assumption) ?_; exact rfl) | omega) (fun h17 => ?_) (fun h17 => ?_)
      · refine jr.iinc (ls' := [_, _]) rfl rfl (nlt rfl) rfl ?_
        refine jr.goto rfl rfl ?_
        refine jr.pick (ls := [_, _]) [0, 1] rfl rfl ?_
        exact ih (nM - 1) (by omega) (i + (-1)) (by omega) g_C hy0 (by rw [hy1, nxD_s (by omega), if_neg (by omega), show i + -1 + 1 = i from by omega]) (by omega) (by omega)
      · have sx17 : (1 : Int) ≤ r3 := by omega
        clear h17
        refine jr.iload_n rfl rfl ?_
        exact jr.ireturn rfl rfl rfl (q _ (by omega) (by rw [hy1, nxD_s (by omega), if_pos (by omega)]))
theorem c_Headers_nearestNet_x {A : Nat → Option (Nat × (Nat → Int32))} {Q : Option Value → jm → Prop} {f : Int → Int} {N : Int} {M : jm} (hC_M : CI M) {t : Nat} (k_t : kd t = 18) {x : Int} (h_x : 0 ≤ x ∧ x ≤ 11) {C : Int} (g_C : M t 3 = C) (p0 : ∀ i : Int, 0 ≤ i → i < C → M (t + 1) i = hX f N i) (p1 : x < C) (q : ∀ (r : Int), (-1) ≤ r ∧ r ≤ 11 → (r = nxD f N x.toNat) → Q (some (.int (Int32.ofInt r))) M) : jc A 2 122 [.ref (t), .int (Int32.ofInt (x))] M Q := by
  refine jc_of (m := xm_122) rfl (Nat.le_of_ble_eq_true rfl) rfl ?_
  have b_C : 0 ≤ C ∧ C ≤ 12 := by rw [← g_C]; exact (CI.r hC_M k_t (by decide) 3)
  refine jr.iload_n rfl rfl ?_
  refine jr.iconst rfl ?_
  refine jr.isub rfl ?_
  refine jr.istore_n (ls' := [_, _, _]) rfl (nlt rfl) rfl ?_
  refine jr.pick (ls := [_, _]) [0, 1] rfl rfl ?_
  exact c_Headers_nearestNet_x_L4 hC_M k_t q 12 (x - 1) (by omega) g_C p0 (by rw [show x - 1 + 1 = x from by omega]) (by omega) (by omega)
theorem c_Headers_isMoreToCome_x {A : Nat → Option (Nat × (Nat → Int32))} {Q : Option Value → jm → Prop} {f : Int → Int} {N : Int} {M : jm} (hC_M : CI M) {t : Nat} (k_t : kd t = 18) {x : Int} (h_x : (-2147483648) ≤ x ∧ x ≤ 2147483647) {C : Int} (g_C : M t 3 = C) (p0 : HS M t f N) (q : ∀ (r : Int), 0 ≤ r ∧ r ≤ 1 → (r = mrf f N C x) → Q (some (.int (Int32.ofInt r))) M) : jc A 3 116 [.ref (t), .int (Int32.ofInt (x))] M Q := by
  refine jc_of (m := xm_116) rfl (Nat.le_of_ble_eq_true rfl) rfl ?_
  have b_C : 0 ≤ C ∧ C ≤ 12 := by rw [← g_C]; exact (CI.r hC_M k_t (by decide) 3)
  refine jr.aload_n rfl rfl ?_
  refine jr.iload_n rfl rfl ?_
  refine jr_v rfl rfl (Or.inl rfl) rfl rfl (Nat.lt_trans (kx_18 k_t).1 (by decide)) (kx_18 k_t).2 ⟨rfl, Nat.le_of_ble_eq_true rfl, Nat.le_of_ble_eq_true rfl⟩ rfl (jc.deep (c_Headers_kindAt_x hC_M k_t (by omega) g_C p0 (fun r1 z1 w1_0 => ?_)) (Nat.le_of_ble_eq_true rfl))
  refine jr.iconst rfl ?_
  refine jr.icmp_ne rfl rfl (by first | (refine rgb (by assumption) ?_; exact rfl) | omega) (rgl rfl) (fun h6 => ?_) (fun h6 => ?_)
  · refine jr.aload_n rfl rfl ?_
    refine jr.iload_n rfl rfl ?_
    refine jr.iconst rfl ?_
    refine jr_v rfl rfl (Or.inl rfl) rfl rfl (Nat.lt_trans (kx_18 k_t).1 (by decide)) (kx_18 k_t).2 ⟨rfl, Nat.le_of_ble_eq_true rfl, Nat.le_of_ble_eq_true rfl⟩ rfl (jc.deep (c_Headers_valueOf_x hC_M k_t (by omega) (by omega) g_C p0 (fun r2 z2 w2_0 => ?_)) (Nat.le_of_ble_eq_true rfl))
    refine jr.lstore_n (ls' := [_, _, _]) rfl (nlt rfl) rfl ?_
    refine jr.lload_n rfl rfl ?_
    refine jr.lconst (x := 1) rfl (by decide) ?_
    refine jr.land rfl ?_
    have b3 : jl_and r2 1 = r2 % 2 ∧ 0 ≤ jl_and r2 1 ∧ jl_and r2 1 ≤ 1 := ⟨jl_and_1 _, by rw [jl_and_1]; omega⟩
    generalize jl_and r2 1 = v3 at b3 ⊢
    refine jr.lconst (x := 0) rfl (by decide) ?_
    refine jr.lcmp_eq rfl rfl rfl (by omega) (by omega) (fun h29 => ?_) (fun h29 => ?_)
    · refine jr.iconst rfl ?_
      exact jr.ireturn rfl rfl rfl (q _ (by first | exact rgq rfl | omega) (by have hq : mrf f N C x = r2 % 2 := (by unfold mrf; rw [← w1_0]; first | (rw [if_pos (by omega), ← w2_0]) | (rw [if_neg (by omega), ← w2_0])); omega))
    · refine jr.iconst rfl ?_
      refine jr.goto rfl rfl ?_
      exact jr.ireturn rfl rfl rfl (q _ (by first | exact rgq rfl | omega) (by have hq : mrf f N C x = r2 % 2 := (by unfold mrf; rw [← w1_0]; first | (rw [if_pos (by omega), ← w2_0]) | (rw [if_neg (by omega), ← w2_0])); omega))
  · refine jr.aload_n rfl rfl ?_
    refine jr.iload_n rfl rfl ?_
    refine jr.iconst rfl ?_
    refine jr_v rfl rfl (Or.inl rfl) rfl rfl (Nat.lt_trans (kx_18 k_t).1 (by decide)) (kx_18 k_t).2 ⟨rfl, Nat.le_of_ble_eq_true rfl, Nat.le_of_ble_eq_true rfl⟩ rfl (jc.deep (c_Headers_valueOf_x hC_M k_t (by omega) (by omega) g_C p0 (fun r4 z4 w4_0 => ?_)) (Nat.le_of_ble_eq_true rfl))
    refine jr.goto rfl rfl ?_
    refine jr.lstore_n (ls' := [_, _, _]) rfl (nlt rfl) rfl ?_
    refine jr.lload_n rfl rfl ?_
    refine jr.lconst (x := 1) rfl (by decide) ?_
    refine jr.land rfl ?_
    have b5 : jl_and r4 1 = r4 % 2 ∧ 0 ≤ jl_and r4 1 ∧ jl_and r4 1 ≤ 1 := ⟨jl_and_1 _, by rw [jl_and_1]; omega⟩
    generalize jl_and r4 1 = v5 at b5 ⊢
    refine jr.lconst (x := 0) rfl (by decide) ?_
    refine jr.lcmp_eq rfl rfl rfl (by omega) (by omega) (fun h29 => ?_) (fun h29 => ?_)
    · refine jr.iconst rfl ?_
      exact jr.ireturn rfl rfl rfl (q _ (by first | exact rgq rfl | omega) (by have hq : mrf f N C x = r4 % 2 := (by unfold mrf; rw [← w1_0]; first | (rw [if_pos (by omega), ← w4_0]) | (rw [if_neg (by omega), ← w4_0])); omega))
    · refine jr.iconst rfl ?_
      refine jr.goto rfl rfl ?_
      exact jr.ireturn rfl rfl rfl (q _ (by first | exact rgq rfl | omega) (by have hq : mrf f N C x = r4 % 2 := (by unfold mrf; rw [← w1_0]; first | (rw [if_pos (by omega), ← w4_0]) | (rw [if_neg (by omega), ← w4_0])); omega))
theorem c_Headers_addressOf_x {A : Nat → Option (Nat × (Nat → Int32))} {Q : Option Value → jm → Prop} {f : Int → Int} {N : Int} {M : jm} (hC_M : CI M) {t : Nat} (k_t : kd t = 18) {x : Int} (h_x : (-2147483648) ≤ x ∧ x ≤ 2147483647) {y : Int} (h_y : 0 ≤ y ∧ y ≤ 1) {C : Int} (g_C : M t 3 = C) (p0 : HS M t f N) (q : ∀ (r : Int), (-9223372036854775808) ≤ r ∧ r ≤ 9223372036854775807 → (r = adf f N C x y) → Q (some (.long (Int64.ofInt r))) M) : jc A 3 113 [.ref (t), .int (Int32.ofInt (x)), .int (Int32.ofInt (y))] M Q := by
  refine jc_of (m := xm_113) rfl (Nat.le_of_ble_eq_true rfl) rfl ?_
  have b_C : 0 ≤ C ∧ C ≤ 12 := by rw [← g_C]; exact (CI.r hC_M k_t (by decide) 3)
  refine jr.aload_n rfl rfl ?_
  refine jr.iload_n rfl rfl ?_
  refine jr_v rfl rfl (Or.inl rfl) rfl rfl (Nat.lt_trans (kx_18 k_t).1 (by decide)) (kx_18 k_t).2 ⟨rfl, Nat.le_of_ble_eq_true rfl, Nat.le_of_ble_eq_true rfl⟩ rfl (jc.deep (c_Headers_kindAt_x hC_M k_t (by omega) g_C p0 (fun r1 z1 w1_0 => ?_)) (Nat.le_of_ble_eq_true rfl))
  refine jr.iconst rfl ?_
  refine jr.icmp_ne rfl rfl (by first | (refine rgb (by assumption) ?_; exact rfl) | omega) (rgl rfl) (fun h6 => ?_) (fun h6 => ?_)
  · refine jr.iconst rfl ?_
    refine jr.istore_n (ls' := [_, _, _, _]) rfl (nlt rfl) rfl ?_
    refine jr.aload_n rfl rfl ?_
    refine jr.iload_n rfl rfl ?_
    refine jr.iload_n rfl rfl ?_
    refine jr.iload_n rfl rfl ?_
    refine jr.iadd rfl ?_
    refine jr_v rfl rfl (Or.inl rfl) rfl rfl (Nat.lt_trans (kx_18 k_t).1 (by decide)) (kx_18 k_t).2 ⟨rfl, Nat.le_of_ble_eq_true rfl, Nat.le_of_ble_eq_true rfl⟩ rfl (jc.deep (c_Headers_valueOf_x hC_M k_t (by omega) (by omega) g_C p0 (fun r2 z2 w2_0 => ?_)) (Nat.le_of_ble_eq_true rfl))
    exact jr.lreturn rfl rfl (q _ (by omega) (by unfold adf; rw [← w1_0]; first | (rw [if_pos (by omega), ← w2_0]) | (rw [if_neg (by omega), ← w2_0])))
  · refine jr.bipush rfl (jbp _ (nlt rfl)) ?_
    refine jr.goto rfl rfl ?_
    refine jr.istore_n (ls' := [_, _, _, _]) rfl (nlt rfl) rfl ?_
    refine jr.aload_n rfl rfl ?_
    refine jr.iload_n rfl rfl ?_
    refine jr.iload_n rfl rfl ?_
    refine jr.iload_n rfl rfl ?_
    refine jr.iadd rfl ?_
    refine jr_v rfl rfl (Or.inl rfl) rfl rfl (Nat.lt_trans (kx_18 k_t).1 (by decide)) (kx_18 k_t).2 ⟨rfl, Nat.le_of_ble_eq_true rfl, Nat.le_of_ble_eq_true rfl⟩ rfl (jc.deep (c_Headers_valueOf_x hC_M k_t (by omega) (by omega) g_C p0 (fun r3 z3 w3_0 => ?_)) (Nat.le_of_ble_eq_true rfl))
    exact jr.lreturn rfl rfl (q _ (by omega) (by unfold adf; rw [← w1_0]; first | (rw [if_pos (by omega), ← w3_0]) | (rw [if_neg (by omega), ← w3_0])))
end
section
/-! ===== each field's value ===== -/
theorem vof_eq {f : Int → Int} {z k a j o c s b : Int} (h : k ≠ 11) (ho : xcv_4 (4 * (xcv_3 k + j)) = o) (hc : xcv_4 (4 * (xcv_3 k + j) + 1) = c) (hs : xcv_4 (4 * (xcv_3 k + j) + 2) = s) (hb : xcv_4 (4 * (xcv_3 k + j) + 3) = b) : vof f z k a j = if 64 ≤ b then jl_w (nbs f (a + o) c.toNat) else nbs f (a + o) c.toNat / ((2 ^ s.toNat : Nat) : Int) % ((2 ^ b.toNat : Nat) : Int) := by
  unfold vof
  rw [if_neg h, ho, hc, hs, hb]
theorem vof_11 (f : Int → Int) (z a j : Int) : vof f z 11 a j = z := rfl
theorem vof_0_0 (f : Int → Int) (z a : Int) : vof f z 0 a 0 = nbs f (a + 0) 1 / 1 % 256 := (vof_eq (o := 0) (c := 1) (s := 0) (b := 8) (by decide) (by decide +kernel) (by decide +kernel) (by decide +kernel) (by decide +kernel)).trans (if_neg (by decide))
theorem vof_0_1 (f : Int → Int) (z a : Int) : vof f z 0 a 1 = nbs f (a + 1) 1 / 1 % 256 := (vof_eq (o := 1) (c := 1) (s := 0) (b := 8) (by decide) (by decide +kernel) (by decide +kernel) (by decide +kernel) (by decide +kernel)).trans (if_neg (by decide))
theorem vof_0_2 (f : Int → Int) (z a : Int) : vof f z 0 a 2 = nbs f (a + 2) 2 / 1 % 65536 := (vof_eq (o := 2) (c := 2) (s := 0) (b := 16) (by decide) (by decide +kernel) (by decide +kernel) (by decide +kernel) (by decide +kernel)).trans (if_neg (by decide))
theorem vof_1_0 (f : Int → Int) (z a : Int) : vof f z 1 a 0 = nbs f (a + 0) 2 / 4096 % 16 := (vof_eq (o := 0) (c := 2) (s := 12) (b := 4) (by decide) (by decide +kernel) (by decide +kernel) (by decide +kernel) (by decide +kernel)).trans (if_neg (by decide))
theorem vof_1_1 (f : Int → Int) (z a : Int) : vof f z 1 a 1 = nbs f (a + 0) 2 / 1 % 4096 := (vof_eq (o := 0) (c := 2) (s := 0) (b := 12) (by decide) (by decide +kernel) (by decide +kernel) (by decide +kernel) (by decide +kernel)).trans (if_neg (by decide))
theorem vof_1_2 (f : Int → Int) (z a : Int) : vof f z 1 a 2 = nbs f (a + 2) 2 / 1 % 65536 := (vof_eq (o := 2) (c := 2) (s := 0) (b := 16) (by decide) (by decide +kernel) (by decide +kernel) (by decide +kernel) (by decide +kernel)).trans (if_neg (by decide))
theorem vof_2_0 (f : Int → Int) (z a : Int) : vof f z 2 a 0 = nbs f (a + 0) 1 / 1 % 16 := (vof_eq (o := 0) (c := 1) (s := 0) (b := 4) (by decide) (by decide +kernel) (by decide +kernel) (by decide +kernel) (by decide +kernel)).trans (if_neg (by decide))
theorem vof_2_1 (f : Int → Int) (z a : Int) : vof f z 2 a 1 = nbs f (a + 1) 1 / 1 % 256 := (vof_eq (o := 1) (c := 1) (s := 0) (b := 8) (by decide) (by decide +kernel) (by decide +kernel) (by decide +kernel) (by decide +kernel)).trans (if_neg (by decide))
theorem vof_2_2 (f : Int → Int) (z a : Int) : vof f z 2 a 2 = nbs f (a + 2) 2 / 1 % 65536 := (vof_eq (o := 2) (c := 2) (s := 0) (b := 16) (by decide) (by decide +kernel) (by decide +kernel) (by decide +kernel) (by decide +kernel)).trans (if_neg (by decide))
theorem vof_2_3 (f : Int → Int) (z a : Int) : vof f z 2 a 3 = nbs f (a + 4) 2 / 1 % 65536 := (vof_eq (o := 4) (c := 2) (s := 0) (b := 16) (by decide) (by decide +kernel) (by decide +kernel) (by decide +kernel) (by decide +kernel)).trans (if_neg (by decide))
theorem vof_2_4 (f : Int → Int) (z a : Int) : vof f z 2 a 4 = nbs f (a + 6) 2 / 8192 % 8 := (vof_eq (o := 6) (c := 2) (s := 13) (b := 3) (by decide) (by decide +kernel) (by decide +kernel) (by decide +kernel) (by decide +kernel)).trans (if_neg (by decide))
theorem vof_2_5 (f : Int → Int) (z a : Int) : vof f z 2 a 5 = nbs f (a + 6) 2 / 1 % 8192 := (vof_eq (o := 6) (c := 2) (s := 0) (b := 13) (by decide) (by decide +kernel) (by decide +kernel) (by decide +kernel) (by decide +kernel)).trans (if_neg (by decide))
theorem vof_2_6 (f : Int → Int) (z a : Int) : vof f z 2 a 6 = nbs f (a + 8) 1 / 1 % 256 := (vof_eq (o := 8) (c := 1) (s := 0) (b := 8) (by decide) (by decide +kernel) (by decide +kernel) (by decide +kernel) (by decide +kernel)).trans (if_neg (by decide))
theorem vof_2_7 (f : Int → Int) (z a : Int) : vof f z 2 a 7 = nbs f (a + 9) 1 / 1 % 256 := (vof_eq (o := 9) (c := 1) (s := 0) (b := 8) (by decide) (by decide +kernel) (by decide +kernel) (by decide +kernel) (by decide +kernel)).trans (if_neg (by decide))
theorem vof_2_8 (f : Int → Int) (z a : Int) : vof f z 2 a 8 = nbs f (a + 10) 2 / 1 % 65536 := (vof_eq (o := 10) (c := 2) (s := 0) (b := 16) (by decide) (by decide +kernel) (by decide +kernel) (by decide +kernel) (by decide +kernel)).trans (if_neg (by decide))
theorem vof_2_9 (f : Int → Int) (z a : Int) : vof f z 2 a 9 = nbs f (a + 12) 4 / 1 % 4294967296 := (vof_eq (o := 12) (c := 4) (s := 0) (b := 32) (by decide) (by decide +kernel) (by decide +kernel) (by decide +kernel) (by decide +kernel)).trans (if_neg (by decide))
theorem vof_2_10 (f : Int → Int) (z a : Int) : vof f z 2 a 10 = nbs f (a + 16) 4 / 1 % 4294967296 := (vof_eq (o := 16) (c := 4) (s := 0) (b := 32) (by decide) (by decide +kernel) (by decide +kernel) (by decide +kernel) (by decide +kernel)).trans (if_neg (by decide))
theorem vof_3_0 (f : Int → Int) (z a : Int) : vof f z 3 a 0 = nbs f (a + 1) 1 / 1 % 256 := (vof_eq (o := 1) (c := 1) (s := 0) (b := 8) (by decide) (by decide +kernel) (by decide +kernel) (by decide +kernel) (by decide +kernel)).trans (if_neg (by decide))
theorem vof_3_1 (f : Int → Int) (z a : Int) : vof f z 3 a 1 = nbs f (a + 2) 2 / 1 % 65536 := (vof_eq (o := 2) (c := 2) (s := 0) (b := 16) (by decide) (by decide +kernel) (by decide +kernel) (by decide +kernel) (by decide +kernel)).trans (if_neg (by decide))
theorem vof_3_2 (f : Int → Int) (z a : Int) : vof f z 3 a 2 = nbs f (a + 4) 1 / 1 % 256 := (vof_eq (o := 4) (c := 1) (s := 0) (b := 8) (by decide) (by decide +kernel) (by decide +kernel) (by decide +kernel) (by decide +kernel)).trans (if_neg (by decide))
theorem vof_3_3 (f : Int → Int) (z a : Int) : vof f z 3 a 3 = nbs f (a + 5) 1 / 1 % 256 := (vof_eq (o := 5) (c := 1) (s := 0) (b := 8) (by decide) (by decide +kernel) (by decide +kernel) (by decide +kernel) (by decide +kernel)).trans (if_neg (by decide))
theorem vof_3_4 (f : Int → Int) (z a : Int) : vof f z 3 a 4 = nbs f (a + 6) 2 / 1 % 65536 := (vof_eq (o := 6) (c := 2) (s := 0) (b := 16) (by decide) (by decide +kernel) (by decide +kernel) (by decide +kernel) (by decide +kernel)).trans (if_neg (by decide))
theorem vof_3_5 (f : Int → Int) (z a : Int) : vof f z 3 a 5 = jl_w (nbs f (a + 8) 8) := (vof_eq (o := 8) (c := 8) (s := 0) (b := 64) (by decide) (by decide +kernel) (by decide +kernel) (by decide +kernel) (by decide +kernel)).trans (if_pos (by decide))
theorem vof_3_6 (f : Int → Int) (z a : Int) : vof f z 3 a 6 = jl_w (nbs f (a + 16) 8) := (vof_eq (o := 16) (c := 8) (s := 0) (b := 64) (by decide) (by decide +kernel) (by decide +kernel) (by decide +kernel) (by decide +kernel)).trans (if_pos (by decide))
theorem vof_4_0 (f : Int → Int) (z a : Int) : vof f z 4 a 0 = nbs f (a + 0) 1 / 1 % 256 := (vof_eq (o := 0) (c := 1) (s := 0) (b := 8) (by decide) (by decide +kernel) (by decide +kernel) (by decide +kernel) (by decide +kernel)).trans (if_neg (by decide))
theorem vof_4_1 (f : Int → Int) (z a : Int) : vof f z 4 a 1 = nbs f (a + 1) 1 / 1 % 256 := (vof_eq (o := 1) (c := 1) (s := 0) (b := 8) (by decide) (by decide +kernel) (by decide +kernel) (by decide +kernel) (by decide +kernel)).trans (if_neg (by decide))
theorem vof_5_0 (f : Int → Int) (z a : Int) : vof f z 5 a 0 = nbs f (a + 0) 1 / 1 % 256 := (vof_eq (o := 0) (c := 1) (s := 0) (b := 8) (by decide) (by decide +kernel) (by decide +kernel) (by decide +kernel) (by decide +kernel)).trans (if_neg (by decide))
theorem vof_5_1 (f : Int → Int) (z a : Int) : vof f z 5 a 1 = nbs f (a + 1) 1 / 1 % 256 := (vof_eq (o := 1) (c := 1) (s := 0) (b := 8) (by decide) (by decide +kernel) (by decide +kernel) (by decide +kernel) (by decide +kernel)).trans (if_neg (by decide))
theorem vof_5_2 (f : Int → Int) (z a : Int) : vof f z 5 a 2 = nbs f (a + 2) 1 / 1 % 256 := (vof_eq (o := 2) (c := 1) (s := 0) (b := 8) (by decide) (by decide +kernel) (by decide +kernel) (by decide +kernel) (by decide +kernel)).trans (if_neg (by decide))
theorem vof_6_0 (f : Int → Int) (z a : Int) : vof f z 6 a 0 = nbs f (a + 0) 1 / 1 % 256 := (vof_eq (o := 0) (c := 1) (s := 0) (b := 8) (by decide) (by decide +kernel) (by decide +kernel) (by decide +kernel) (by decide +kernel)).trans (if_neg (by decide))
theorem vof_6_1 (f : Int → Int) (z a : Int) : vof f z 6 a 1 = nbs f (a + 2) 2 / 8 % 8192 := (vof_eq (o := 2) (c := 2) (s := 3) (b := 13) (by decide) (by decide +kernel) (by decide +kernel) (by decide +kernel) (by decide +kernel)).trans (if_neg (by decide))
theorem vof_6_2 (f : Int → Int) (z a : Int) : vof f z 6 a 2 = nbs f (a + 2) 2 / 1 % 2 := (vof_eq (o := 2) (c := 2) (s := 0) (b := 1) (by decide) (by decide +kernel) (by decide +kernel) (by decide +kernel) (by decide +kernel)).trans (if_neg (by decide))
theorem vof_6_3 (f : Int → Int) (z a : Int) : vof f z 6 a 3 = nbs f (a + 4) 4 / 1 % 4294967296 := (vof_eq (o := 4) (c := 4) (s := 0) (b := 32) (by decide) (by decide +kernel) (by decide +kernel) (by decide +kernel) (by decide +kernel)).trans (if_neg (by decide))
theorem vof_7_0 (f : Int → Int) (z a : Int) : vof f z 7 a 0 = nbs f (a + 0) 1 / 1 % 256 := (vof_eq (o := 0) (c := 1) (s := 0) (b := 8) (by decide) (by decide +kernel) (by decide +kernel) (by decide +kernel) (by decide +kernel)).trans (if_neg (by decide))
theorem vof_7_1 (f : Int → Int) (z a : Int) : vof f z 7 a 1 = nbs f (a + 1) 1 / 1 % 256 := (vof_eq (o := 1) (c := 1) (s := 0) (b := 8) (by decide) (by decide +kernel) (by decide +kernel) (by decide +kernel) (by decide +kernel)).trans (if_neg (by decide))
theorem vof_7_2 (f : Int → Int) (z a : Int) : vof f z 7 a 2 = nbs f (a + 2) 2 / 1 % 65536 := (vof_eq (o := 2) (c := 2) (s := 0) (b := 16) (by decide) (by decide +kernel) (by decide +kernel) (by decide +kernel) (by decide +kernel)).trans (if_neg (by decide))
theorem vof_7_3 (f : Int → Int) (z a : Int) : vof f z 7 a 3 = nbs f (a + 4) 4 / 1 % 4294967296 := (vof_eq (o := 4) (c := 4) (s := 0) (b := 32) (by decide) (by decide +kernel) (by decide +kernel) (by decide +kernel) (by decide +kernel)).trans (if_neg (by decide))
theorem vof_8_0 (f : Int → Int) (z a : Int) : vof f z 8 a 0 = nbs f (a + 0) 2 / 1 % 65536 := (vof_eq (o := 0) (c := 2) (s := 0) (b := 16) (by decide) (by decide +kernel) (by decide +kernel) (by decide +kernel) (by decide +kernel)).trans (if_neg (by decide))
theorem vof_8_1 (f : Int → Int) (z a : Int) : vof f z 8 a 1 = nbs f (a + 2) 2 / 1 % 65536 := (vof_eq (o := 2) (c := 2) (s := 0) (b := 16) (by decide) (by decide +kernel) (by decide +kernel) (by decide +kernel) (by decide +kernel)).trans (if_neg (by decide))
theorem vof_8_2 (f : Int → Int) (z a : Int) : vof f z 8 a 2 = nbs f (a + 4) 4 / 1 % 4294967296 := (vof_eq (o := 4) (c := 4) (s := 0) (b := 32) (by decide) (by decide +kernel) (by decide +kernel) (by decide +kernel) (by decide +kernel)).trans (if_neg (by decide))
theorem vof_8_3 (f : Int → Int) (z a : Int) : vof f z 8 a 3 = nbs f (a + 8) 4 / 1 % 4294967296 := (vof_eq (o := 8) (c := 4) (s := 0) (b := 32) (by decide) (by decide +kernel) (by decide +kernel) (by decide +kernel) (by decide +kernel)).trans (if_neg (by decide))
theorem vof_8_4 (f : Int → Int) (z a : Int) : vof f z 8 a 4 = nbs f (a + 12) 1 / 16 % 16 := (vof_eq (o := 12) (c := 1) (s := 4) (b := 4) (by decide) (by decide +kernel) (by decide +kernel) (by decide +kernel) (by decide +kernel)).trans (if_neg (by decide))
theorem vof_8_5 (f : Int → Int) (z a : Int) : vof f z 8 a 5 = nbs f (a + 13) 1 / 1 % 256 := (vof_eq (o := 13) (c := 1) (s := 0) (b := 8) (by decide) (by decide +kernel) (by decide +kernel) (by decide +kernel) (by decide +kernel)).trans (if_neg (by decide))
theorem vof_8_6 (f : Int → Int) (z a : Int) : vof f z 8 a 6 = nbs f (a + 14) 2 / 1 % 65536 := (vof_eq (o := 14) (c := 2) (s := 0) (b := 16) (by decide) (by decide +kernel) (by decide +kernel) (by decide +kernel) (by decide +kernel)).trans (if_neg (by decide))
theorem vof_8_7 (f : Int → Int) (z a : Int) : vof f z 8 a 7 = nbs f (a + 16) 2 / 1 % 65536 := (vof_eq (o := 16) (c := 2) (s := 0) (b := 16) (by decide) (by decide +kernel) (by decide +kernel) (by decide +kernel) (by decide +kernel)).trans (if_neg (by decide))
theorem vof_9_0 (f : Int → Int) (z a : Int) : vof f z 9 a 0 = nbs f (a + 0) 2 / 1 % 65536 := (vof_eq (o := 0) (c := 2) (s := 0) (b := 16) (by decide) (by decide +kernel) (by decide +kernel) (by decide +kernel) (by decide +kernel)).trans (if_neg (by decide))
theorem vof_9_1 (f : Int → Int) (z a : Int) : vof f z 9 a 1 = nbs f (a + 2) 2 / 1 % 65536 := (vof_eq (o := 2) (c := 2) (s := 0) (b := 16) (by decide) (by decide +kernel) (by decide +kernel) (by decide +kernel) (by decide +kernel)).trans (if_neg (by decide))
theorem vof_9_2 (f : Int → Int) (z a : Int) : vof f z 9 a 2 = nbs f (a + 4) 2 / 1 % 65536 := (vof_eq (o := 4) (c := 2) (s := 0) (b := 16) (by decide) (by decide +kernel) (by decide +kernel) (by decide +kernel) (by decide +kernel)).trans (if_neg (by decide))
theorem vof_9_3 (f : Int → Int) (z a : Int) : vof f z 9 a 3 = nbs f (a + 6) 2 / 1 % 65536 := (vof_eq (o := 6) (c := 2) (s := 0) (b := 16) (by decide) (by decide +kernel) (by decide +kernel) (by decide +kernel) (by decide +kernel)).trans (if_neg (by decide))
theorem vof_10_0 (f : Int → Int) (z a : Int) : vof f z 10 a 0 = nbs f (a + 0) 2 / 1 % 65536 := (vof_eq (o := 0) (c := 2) (s := 0) (b := 16) (by decide) (by decide +kernel) (by decide +kernel) (by decide +kernel) (by decide +kernel)).trans (if_neg (by decide))
theorem vof_10_1 (f : Int → Int) (z a : Int) : vof f z 10 a 1 = nbs f (a + 2) 2 / 1 % 65536 := (vof_eq (o := 2) (c := 2) (s := 0) (b := 16) (by decide) (by decide +kernel) (by decide +kernel) (by decide +kernel) (by decide +kernel)).trans (if_neg (by decide))
theorem xcv2_k : xcv_2 0 = 3 ∧ xcv_2 1 = 3 ∧ xcv_2 2 = 11 ∧ xcv_2 3 = 7 ∧ xcv_2 4 = 2 ∧ xcv_2 5 = 3 ∧ xcv_2 6 = 4 ∧ xcv_2 7 = 4 ∧ xcv_2 8 = 8 ∧ xcv_2 9 = 4 ∧ xcv_2 10 = 2 ∧ xcv_2 11 = 1 := by decide +kernel
theorem vA_k {f : Int → Int} {N C x j k : Int} (h0 : 0 ≤ x ∧ x < C) (hk : hX f N x = k) (hj : 0 ≤ j ∧ j < xcv_2 k) : vA f N C x j = vof f (hZ f N x) k (hY f N x) j := (vA_in h0 hk rfl hj rfl).symm
theorem ofs_r {f : Int → Int} {N C x : Int} (h0 : 0 ≤ x ∧ x < C) (hk : hX f N x = 2 ∨ hX f N x = 6) : 0 ≤ vA f N C x (if kA f N C x = 2 then 5 else 1) ∧ vA f N C x (if kA f N C x = 2 then 5 else 1) ≤ 8191 := by
  rw [kA_i h0]
  rcases hk with hk | hk
  · rw [if_pos hk, vA_k h0 hk (by decide +kernel), vof_2_5]
    omega
  · rw [if_neg (by omega), vA_k h0 hk (by decide +kernel), vof_6_1]
    omega
noncomputable def enf (f : Int → Int) (N C x : Int) : Int := if 0 ≤ x ∧ x < C then hY f N x + hZ f N x else 0
theorem enf_i {f : Int → Int} {N C x : Int} (h : 0 ≤ x ∧ x < C) : enf f N C x = hY f N x + hZ f N x := by
  unfold enf
  rw [if_pos h]
theorem c_Headers_offsetOf_x {A : Nat → Option (Nat × (Nat → Int32))} {Q : Option Value → jm → Prop} {f : Int → Int} {N : Int} {M : jm} (hC_M : CI M) {t : Nat} (k_t : kd t = 18) {x : Int} (h_x : (-2147483648) ≤ x ∧ x ≤ 2147483647) {C : Int} (g_C : M t 3 = C) (p0 : HS M t f N) (p1 : 0 ≤ x ∧ x < C) (p2 : hX f N x = 2 ∨ hX f N x = 6) (q : ∀ (r : Int), 0 ≤ r ∧ r ≤ 65528 → (r = ofs f N C x) → Q (some (.int (Int32.ofInt r))) M) : jc A 3 117 [.ref (t), .int (Int32.ofInt (x))] M Q := by
  refine jc_of (m := xm_117) rfl (Nat.le_of_ble_eq_true rfl) rfl ?_
  have b_C : 0 ≤ C ∧ C ≤ 12 := by rw [← g_C]; exact (CI.r hC_M k_t (by decide) 3)
  refine jr.bipush rfl (jbp _ (nlt rfl)) ?_
  refine jr.aload_n rfl rfl ?_
  refine jr.iload_n rfl rfl ?_
  refine jr.aload_n rfl rfl ?_
  refine jr.iload_n rfl rfl ?_
  refine jr_v rfl rfl (Or.inl rfl) rfl rfl (Nat.lt_trans (kx_18 k_t).1 (by decide)) (kx_18 k_t).2 ⟨rfl, Nat.le_of_ble_eq_true rfl, Nat.le_of_ble_eq_true rfl⟩ rfl (jc.deep (c_Headers_kindAt_x hC_M k_t (by omega) g_C p0 (fun r1 z1 w1_0 => ?_)) (Nat.le_of_ble_eq_true rfl))
  refine jr.iconst rfl ?_
  refine jr.icmp_ne rfl rfl (by first | (refine rgb (by assumption) ?_; exact rfl) | omega) (rgl rfl) (fun h10 => ?_) (fun h10 => ?_)
  · refine jr.iconst rfl ?_
    refine jr_v rfl rfl (Or.inl rfl) rfl rfl (Nat.lt_trans (kx_18 k_t).1 (by decide)) (kx_18 k_t).2 ⟨rfl, Nat.le_of_ble_eq_true rfl, Nat.le_of_ble_eq_true rfl⟩ rfl (jc.deep (c_Headers_valueOf_x hC_M k_t (by omega) (by omega) g_C p0 (fun r2 z2 w2_0 => ?_)) (Nat.le_of_ble_eq_true rfl))
    have hv : 0 ≤ r2 ∧ r2 ≤ 8191 := (by have hq := ofs_r (f := f) (N := N) (C := C) (x := x) p1 p2; rw [← w1_0] at hq; first | (rw [if_pos (by omega), ← w2_0] at hq; exact hq) | (rw [if_neg (by omega), ← w2_0] at hq; exact hq))
    refine jr.l2i rfl ?_
    refine jr.imul rfl ?_
    exact jr.ireturn rfl rfl rfl (q _ (by omega) (by unfold ofs; rw [← w1_0]; first | (rw [if_pos (by omega), ← w2_0]) | (rw [if_neg (by omega), ← w2_0])))
  · refine jr.iconst rfl ?_
    refine jr.goto rfl rfl ?_
    refine jr_v rfl rfl (Or.inl rfl) rfl rfl (Nat.lt_trans (kx_18 k_t).1 (by decide)) (kx_18 k_t).2 ⟨rfl, Nat.le_of_ble_eq_true rfl, Nat.le_of_ble_eq_true rfl⟩ rfl (jc.deep (c_Headers_valueOf_x hC_M k_t (by omega) (by omega) g_C p0 (fun r3 z3 w3_0 => ?_)) (Nat.le_of_ble_eq_true rfl))
    have hv : 0 ≤ r3 ∧ r3 ≤ 8191 := (by have hq := ofs_r (f := f) (N := N) (C := C) (x := x) p1 p2; rw [← w1_0] at hq; first | (rw [if_pos (by omega), ← w3_0] at hq; exact hq) | (rw [if_neg (by omega), ← w3_0] at hq; exact hq))
    refine jr.l2i rfl ?_
    refine jr.imul rfl ?_
    exact jr.ireturn rfl rfl rfl (q _ (by omega) (by unfold ofs; rw [← w1_0]; first | (rw [if_pos (by omega), ← w3_0]) | (rw [if_neg (by omega), ← w3_0])))
theorem c_Headers_pieceHeader_x {A : Nat → Option (Nat × (Nat → Int32))} {Q : Option Value → jm → Prop} {f : Int → Int} {N : Int} {M : jm} (hC_M : CI M) {t : Nat} (k_t : kd t = 18) {C : Int} (g_C : M t 3 = C) {F : Int} (g_F : M t 4 = F) (p0 : HS M t f N) (q : ∀ (r : Int), (-1) ≤ r ∧ r ≤ 11 → ((F ≠ 0 ∧ r = -1) ∨ (F = 0 ∧ r = pcf f N C)) → Q (some (.int (Int32.ofInt r))) M) : jc A 4 115 [.ref (t)] M Q := by
  refine jc_of (m := xm_115) rfl (Nat.le_of_ble_eq_true rfl) rfl ?_
  have b_C : 0 ≤ C ∧ C ≤ 12 := by rw [← g_C]; exact (CI.r hC_M k_t (by decide) 3)
  have b_F : (-2147483648) ≤ F ∧ F ≤ 2147483647 := by rw [← g_F]; exact (CI.r hC_M k_t (by decide) 4)
  refine jr.aload_n rfl rfl ?_
  refine jr.bipush rfl (jbp _ (nlt rfl)) ?_
  refine jr_v rfl rfl (Or.inl rfl) rfl rfl (Nat.lt_trans (kx_18 k_t).1 (by decide)) (kx_18 k_t).2 ⟨rfl, Nat.le_of_ble_eq_true rfl, Nat.le_of_ble_eq_true rfl⟩ rfl (jc.deep (c_Headers_firstOf_x hC_M k_t (by omega) g_C p0 (fun r1 z1 w1_0 => ?_)) (Nat.le_of_ble_eq_true rfl))
  have hnt : r1 = -1 ∨ ((0 ≤ r1 ∧ r1 < C) ∧ (hX f N r1 = 2 ∨ hX f N r1 = 3)) := (by have hq := ntf_r (f := f) (N := N) (C := C) (by omega); rw [← w1_0] at hq; exact hq)
  refine jr.istore_n (ls' := [_, _]) rfl (nlt rfl) rfl ?_
  refine jr.aload_n rfl rfl ?_
  refine jr.getf (i := 4) (x := F) (v := .int (Int32.ofInt (F))) rfl rfl (Nat.lt_trans (kx_18 k_t).1 (by decide)) (kx_18 k_t).2 (by decide) rfl rfl g_F rfl ?_
  refine jr.if_ne rfl rfl (by first | (refine rgb (by assumption) ?_; exact rfl) | omega) (fun h11 => ?_) (fun h11 => ?_)
  · refine jr.iconst rfl ?_
    exact jr.ireturn rfl rfl rfl (q _ (by first | exact rgq rfl | omega) (by first | exact Or.inl ⟨by omega, rfl⟩ | exact Or.inr ⟨by omega, by unfold pcf; rw [if_pos (by omega)]⟩))
  · refine jr.iload_n rfl rfl ?_
    refine jr.iconst rfl ?_
    refine jr.icmp_ne rfl rfl (by first | (refine rgb (by assumption) ?_; exact rfl) | omega) (rgl rfl) (fun h16 => ?_) (fun h16 => ?_)
    · have sx16 : (0 : Int) ≤ r1 := by omega
      clear h16
      refine jr.aload_n rfl rfl ?_
      have k2 := kf_18_0 k_t
      refine jr.getf (i := 0) (v := .ref (t + 1)) rfl rfl (Nat.lt_trans (kx_18 k_t).1 (by decide)) (kx_18 k_t).2 (by decide) rfl rfl rfl (jval_ref rfl k2.1) ?_
      refine jr.iload_n rfl rfl ?_
      obtain ⟨v3, e3⟩ : ∃ z_, M ((t + 1)) r1 = z_ := ⟨_, rfl⟩
      have b3 : 0 ≤ v3 ∧ v3 ≤ 11 := by rw [← e3]; exact (CI.r hC_M k2.2 (by decide) r1)
      refine jr.iald (i := r1) (x := v3) rfl (Nat.lt_trans (kx_19 k2.2).1 (by decide)) (kx_19 k2.2).2 (by decide) (by omega) (by omega) e3 ?_
      have hn0 : 0 ≤ r1 ∧ r1 < C := (by have hq := ntf_r (f := f) (N := N) (C := C) (by omega); rw [← w1_0] at hq; omega)
      have hr := p0.2.2.2.2.1 r1 hn0.1 (by omega)
      have hkn : kA f N C r1 = hX f N r1 := kA_i hn0
      refine jr.iconst rfl ?_
      refine jr.icmp_ne rfl rfl (by first | (refine rgb (by assumption) ?_; exact rfl) | omega) (rgl rfl) (fun h28 => ?_) (fun h28 => ?_)
      · refine jr.aload_n rfl rfl ?_
        refine jr.iload_n rfl rfl ?_
        refine jr_v rfl rfl (Or.inl rfl) rfl rfl (Nat.lt_trans (kx_18 k_t).1 (by decide)) (kx_18 k_t).2 ⟨rfl, Nat.le_of_ble_eq_true rfl, Nat.le_of_ble_eq_true rfl⟩ rfl (jc.deep (c_Headers_innerOf_x hC_M k_t (by omega) g_C p0 (fun r4 z4 w4_0 => ?_)) (Nat.le_of_ble_eq_true rfl))
        refine jr.istore_n (ls' := [_, _, _]) rfl (nlt rfl) rfl ?_
        refine jr.aload_n rfl rfl ?_
        refine jr.iload_n rfl rfl ?_
        refine jr_v rfl rfl (Or.inl rfl) rfl rfl (Nat.lt_trans (kx_18 k_t).1 (by decide)) (kx_18 k_t).2 ⟨rfl, Nat.le_of_ble_eq_true rfl, Nat.le_of_ble_eq_true rfl⟩ rfl (jc.deep (c_Headers_kindAt_x hC_M k_t (by omega) g_C p0 (fun r5 z5 w5_0 => ?_)) (Nat.le_of_ble_eq_true rfl))
        refine jr.bipush rfl (jbp _ (nlt rfl)) ?_
        refine jr.icmp_ne rfl rfl (by first | (refine rgb (by assumption) ?_; exact rfl) | omega) (rgl rfl) (fun h66 => ?_) (fun h66 => ?_)
        · refine jr.iconst rfl ?_
          exact jr.ireturn rfl rfl rfl (q _ (by first | exact rgq rfl | omega) (Or.inr ⟨by omega, by unfold pcf; rw [← w1_0, if_neg (by omega), if_neg (by omega), ← w4_0, ← w5_0]; first | (rw [if_pos (by omega)]) | (rw [if_neg (by omega)])⟩))
        · refine jr.iload_n rfl rfl ?_
          refine jr.goto rfl rfl ?_
          exact jr.ireturn rfl rfl rfl (q _ (by omega) (Or.inr ⟨by omega, by unfold pcf; rw [← w1_0, if_neg (by omega), if_neg (by omega), ← w4_0, ← w5_0]; first | (rw [if_pos (by omega)]) | (rw [if_neg (by omega)])⟩))
      · refine jr.aload_n rfl rfl ?_
        refine jr.iload_n rfl rfl ?_
        refine jr_v rfl rfl (Or.inl rfl) rfl rfl (Nat.lt_trans (kx_18 k_t).1 (by decide)) (kx_18 k_t).2 ⟨rfl, Nat.le_of_ble_eq_true rfl, Nat.le_of_ble_eq_true rfl⟩ rfl (jc.deep (c_Headers_isMoreToCome_x hC_M k_t (by omega) g_C p0 (fun r6 z6 w6_0 => ?_)) (Nat.le_of_ble_eq_true rfl))
        refine jr.if_ne rfl rfl (by first | (refine rgb (by assumption) ?_; exact rfl) | omega) (fun h36 => ?_) (fun h36 => ?_)
        · have sx36 : (1 : Int) ≤ r6 := by omega
          clear h36
          refine jr.iload_n rfl rfl ?_
          refine jr.goto rfl rfl ?_
          exact jr.ireturn rfl rfl rfl (q _ (by omega) (Or.inr ⟨by omega, by unfold pcf; rw [← w1_0, if_neg (by omega), if_pos (by omega)]; first | (rw [if_pos (Or.inl (by omega))]) | (rw [if_pos (Or.inr (by omega))]) | (rw [if_neg (by omega)])⟩))
        · refine jr.aload_n rfl rfl ?_
          refine jr.iload_n rfl rfl ?_
          refine jr_v rfl rfl (Or.inl rfl) rfl rfl (Nat.lt_trans (kx_18 k_t).1 (by decide)) (kx_18 k_t).2 ⟨rfl, Nat.le_of_ble_eq_true rfl, Nat.le_of_ble_eq_true rfl⟩ rfl (jc.deep (c_Headers_offsetOf_x hC_M k_t (by omega) g_C p0 (by omega) (by omega) (fun r7 z7 w7_0 => ?_)) (Nat.le_of_ble_eq_true rfl))
          refine jr.if_le rfl rfl (by first | (refine rgb (by assumption) ?_; exact rfl) | omega) (fun h44 => ?_) (fun h44 => ?_)
          · refine jr.iconst rfl ?_
            exact jr.ireturn rfl rfl rfl (q _ (by first | exact rgq rfl | omega) (Or.inr ⟨by omega, by unfold pcf; rw [← w1_0, if_neg (by omega), if_pos (by omega)]; first | (rw [if_pos (Or.inl (by omega))]) | (rw [if_pos (Or.inr (by omega))]) | (rw [if_neg (by omega)])⟩))
          · refine jr.iload_n rfl rfl ?_
            refine jr.goto rfl rfl ?_
            exact jr.ireturn rfl rfl rfl (q _ (by omega) (Or.inr ⟨by omega, by unfold pcf; rw [← w1_0, if_neg (by omega), if_pos (by omega)]; first | (rw [if_pos (Or.inl (by omega))]) | (rw [if_pos (Or.inr (by omega))]) | (rw [if_neg (by omega)])⟩))
    · refine jr.iconst rfl ?_
      exact jr.ireturn rfl rfl rfl (q _ (by first | exact rgq rfl | omega) (by first | exact Or.inl ⟨by omega, rfl⟩ | exact Or.inr ⟨by omega, by unfold pcf; rw [if_pos (by omega)]⟩))
theorem c_Headers_endOf_x {A : Nat → Option (Nat × (Nat → Int32))} {Q : Option Value → jm → Prop} {f : Int → Int} {N : Int} {M : jm} (hC_M : CI M) {t : Nat} (k_t : kd t = 18) {x : Int} (h_x : (-2147483648) ≤ x ∧ x ≤ 2147483647) {C : Int} (g_C : M t 3 = C) (p0 : HS M t f N) (q : ∀ (r : Int), (-400) ≤ r ∧ r ≤ 2448 → (r = enf f N C x) → Q (some (.int (Int32.ofInt r))) M) : jc A 2 118 [.ref (t), .int (Int32.ofInt (x))] M Q := by
  refine jc_of (m := xm_118) rfl (Nat.le_of_ble_eq_true rfl) rfl ?_
  have b_C : 0 ≤ C ∧ C ≤ 12 := by rw [← g_C]; exact (CI.r hC_M k_t (by decide) 3)
  refine jr.aload_n rfl rfl ?_
  refine jr.iload_n rfl rfl ?_
  refine jr_v rfl rfl (Or.inl rfl) rfl rfl (Nat.lt_trans (kx_18 k_t).1 (by decide)) (kx_18 k_t).2 ⟨rfl, Nat.le_of_ble_eq_true rfl, Nat.le_of_ble_eq_true rfl⟩ rfl (jc.deep (c_Headers_hasHeader hC_M k_t (by omega) (fun r1 z1 w1_0 w1_1 => ?_)) (Nat.le_of_ble_eq_true rfl))
  refine jr.if_eq rfl rfl (by first | (refine rgb (by assumption) ?_; exact rfl) | omega) (fun h5 => ?_) (fun h5 => ?_)
  · refine jr.iconst rfl ?_
    exact jr.ireturn rfl rfl rfl (q _ (by first | exact rgq rfl | omega) (by unfold enf; first | (rw [if_neg (by omega)]) | (have hr := p0.2.2.2.2.1 x (by omega) (by omega); rw [if_pos (by omega)]; omega)))
  · have sx5 : (1 : Int) ≤ r1 := by omega
    clear h5
    refine jr.aload_n rfl rfl ?_
    have k2 := kf_18_1 k_t
    refine jr.getf (i := 1) (v := .ref (t + 2)) rfl rfl (Nat.lt_trans (kx_18 k_t).1 (by decide)) (kx_18 k_t).2 (by decide) rfl rfl rfl (jval_ref rfl k2.1) ?_
    refine jr.iload_n rfl rfl ?_
    obtain ⟨v3, e3⟩ : ∃ z_, M ((t + 2)) x = z_ := ⟨_, rfl⟩
    have b3 : 0 ≤ v3 ∧ v3 ≤ 400 := by rw [← e3]; exact (CI.r hC_M k2.2 (by decide) x)
    refine jr.iald (i := x) (x := v3) rfl (Nat.lt_trans (kx_20 k2.2).1 (by decide)) (kx_20 k2.2).2 (by decide) (by omega) (by omega) e3 ?_
    refine jr.aload_n rfl rfl ?_
    have k4 := kf_18_2 k_t
    refine jr.getf (i := 2) (v := .ref (t + 3)) rfl rfl (Nat.lt_trans (kx_18 k_t).1 (by decide)) (kx_18 k_t).2 (by decide) rfl rfl rfl (jval_ref rfl k4.1) ?_
    refine jr.iload_n rfl rfl ?_
    obtain ⟨v5, e5⟩ : ∃ z_, M ((t + 3)) x = z_ := ⟨_, rfl⟩
    have b5 : (-400) ≤ v5 ∧ v5 ≤ 2048 := by rw [← e5]; exact (CI.r hC_M k4.2 (by decide) x)
    refine jr.iald (i := x) (x := v5) rfl (Nat.lt_trans (kx_21 k4.2).1 (by decide)) (kx_21 k4.2).2 (by decide) (by omega) (by omega) e5 ?_
    refine jr.iadd rfl ?_
    refine jr.goto rfl rfl ?_
    exact jr.ireturn rfl rfl rfl (q _ (by omega) (by unfold enf; first | (rw [if_neg (by omega)]) | (have hr := p0.2.2.2.2.1 x (by omega) (by omega); rw [if_pos (by omega)]; omega)))
theorem c_Headers_dataBehind_x {A : Nat → Option (Nat × (Nat → Int32))} {Q : Option Value → jm → Prop} {f : Int → Int} {N : Int} {M : jm} (hC_M : CI M) {t : Nat} (k_t : kd t = 18) {x : Int} (h_x : (-2147483648) ≤ x ∧ x ≤ 2147483647) {C : Int} (g_C : M t 3 = C) {S : Int} (g_S : M t 7 = S) (p0 : HS M t f N) (q : ∀ (r : Int), (-2449) ≤ r ∧ r ≤ 800 → (r = N - enf f N C x) → Q (some (.int (Int32.ofInt r))) M) : jc A 3 119 [.ref (t), .int (Int32.ofInt (x))] M Q := by
  refine jc_of (m := xm_119) rfl (Nat.le_of_ble_eq_true rfl) rfl ?_
  have b_C : 0 ≤ C ∧ C ≤ 12 := by rw [← g_C]; exact (CI.r hC_M k_t (by decide) 3)
  have k_S : kd S.toNat = 33 := (congrArg (fun z : Int => kd z.toNat) g_S).symm.trans (CI.x hC_M k_t 7 rfl (by decide))
  refine jr.aload_n rfl rfl ?_
  refine jr.getf (i := 7) (x := S) (v := .ref (S.toNat)) rfl rfl (Nat.lt_trans (kx_18 k_t).1 (by decide)) (kx_18 k_t).2 (by decide) rfl rfl g_S (jval_mut rfl (kn_18_7 k_t)) ?_
  obtain ⟨v2, e2⟩ : ∃ z_, M ((S.toNat)) 1 = z_ := ⟨_, rfl⟩
  have b2 : (-1) ≤ v2 ∧ v2 ≤ 400 := by rw [← e2]; exact (CI.r hC_M k_S (by decide) 1)
  refine jr.getf (i := 1) (x := v2) (v := .int (Int32.ofInt (v2))) rfl rfl (Nat.lt_trans (kx_33 k_S).1 (by decide)) (kx_33 k_S).2 (by decide) rfl rfl e2 rfl ?_
  refine jr.aload_n rfl rfl ?_
  refine jr.iload_n rfl rfl ?_
  refine jr_v rfl rfl (Or.inl rfl) rfl rfl (Nat.lt_trans (kx_18 k_t).1 (by decide)) (kx_18 k_t).2 ⟨rfl, Nat.le_of_ble_eq_true rfl, Nat.le_of_ble_eq_true rfl⟩ rfl (jc.deep (c_Headers_endOf_x hC_M k_t (by omega) g_C p0 (fun r3 z3 w3_0 => ?_)) (Nat.le_of_ble_eq_true rfl))
  refine jr.isub rfl ?_
  exact jr.ireturn rfl rfl rfl (q _ (by omega) (by have hn := p0.2.1; rw [g_S] at hn; omega))
end
section
/-! ===== sums ===== -/
noncomputable def sb (f : Int → Int) (a : Int) : Nat → Int
  | 0 => 0
  | n + 1 => sb f a n + (if n % 2 = 0 then f (a + n) * 256 else f (a + n))
noncomputable def fz (f : Int → Int) (b : Int) : Int → Int := fun k => if k = b ∨ k = b + 1 then 0 else f k
theorem sb_s {f : Int → Int} {a i : Int} (h : a ≤ i) : sb f a (i + 1 - a).toNat = sb f a (i - a).toNat + (if (i - a) % 2 = 0 then f i * 256 else f i) := by
  obtain ⟨n, hn⟩ : ∃ n : Nat, i = a + n := ⟨(i - a).toNat, by omega⟩
  subst hn
  rw [show (a + (n : Int) + 1 - a).toNat = n + 1 by omega, show (a + (n : Int) - a).toNat = n by omega, show a + (n : Int) - a = (n : Int) by omega]
  unfold sb
  by_cases q : n % 2 = 0
  · rw [if_pos q, if_pos (by omega)]
    cases n <;> rfl
  · rw [if_neg q, if_neg (by omega)]
    cases n <;> rfl
theorem sb_0 (f : Int → Int) (a : Int) : sb f a (a - a).toNat = 0 := by
  rw [show (a - a).toNat = 0 by omega]
  rfl
theorem sb_r {f : Int → Int} {a : Int} : ∀ n : Nat, (∀ i : Int, a ≤ i → i < a + n → 0 ≤ f i ∧ f i ≤ 255) → 0 ≤ sb f a n ∧ sb f a n ≤ 65280 * (n : Int) := by
  intro n
  induction n with
  | zero => intro _; exact ⟨Int.le_refl _, Int.le_refl _⟩
  | succ n ih =>
    intro h
    have q := ih (fun i h0 h1 => h i h0 (by omega))
    have w := h (a + n) (by omega) (by omega)
    unfold sb
    split <;> omega
theorem sb_e {f g : Int → Int} {a : Int} : ∀ n : Nat, (∀ i : Int, a ≤ i → i < a + n → f i = g i) → sb f a n = sb g a n := by
  intro n
  induction n with
  | zero => intro _; rfl
  | succ n ih =>
    intro h
    unfold sb
    rw [ih (fun i h0 h1 => h i h0 (by omega)), h (a + n) (by omega) (by omega)]
theorem sb_z {f : Int → Int} {a b : Int} (h : a ≤ b) (he : (b - a) % 2 = 0) : ∀ n : Nat, sb (fz f b) a n = sb f a n - (if b < a + n then f b * 256 else 0) - (if b + 1 < a + n then f (b + 1) else 0) := by
  intro n
  induction n with
  | zero =>
    rw [if_neg (by omega), if_neg (by omega)]
    rfl
  | succ n ih =>
    show sb (fz f b) a n + (if n % 2 = 0 then fz f b (a + n) * 256 else fz f b (a + n)) = sb f a n + (if n % 2 = 0 then f (a + n) * 256 else f (a + n)) - _ - _
    rw [ih]
    unfold fz
    by_cases q : a + (n : Int) = b
    · rw [if_pos (Or.inl q), if_pos (show n % 2 = 0 by omega), if_pos (show n % 2 = 0 by omega), if_neg (show ¬ b < a + (n : Int) by omega), if_neg (show ¬ b + 1 < a + (n : Int) by omega), if_pos (show b < a + ((n + 1 : Nat) : Int) by omega), if_neg (show ¬ b + 1 < a + ((n + 1 : Nat) : Int) by omega), q]
      omega
    · by_cases q2 : a + (n : Int) = b + 1
      · rw [if_pos (Or.inr q2), if_neg (show ¬ n % 2 = 0 by omega), if_neg (show ¬ n % 2 = 0 by omega), if_pos (show b < a + (n : Int) by omega), if_neg (show ¬ b + 1 < a + (n : Int) by omega), if_pos (show b < a + ((n + 1 : Nat) : Int) by omega), if_pos (show b + 1 < a + ((n + 1 : Nat) : Int) by omega), q2]
        omega
      · rw [if_neg (show ¬ (a + (n : Int) = b ∨ a + (n : Int) = b + 1) by omega)]
        by_cases q3 : b < a + (n : Int)
        · rw [if_pos q3, if_pos (show b + 1 < a + (n : Int) by omega), if_pos (show b < a + ((n + 1 : Nat) : Int) by omega), if_pos (show b + 1 < a + ((n + 1 : Nat) : Int) by omega)]
          omega
        · rw [if_neg q3, if_neg (show ¬ b + 1 < a + (n : Int) by omega), if_neg (show ¬ b < a + ((n + 1 : Nat) : Int) by omega), if_neg (show ¬ b + 1 < a + ((n + 1 : Nat) : Int) by omega)]
          omega
theorem sb_zt {f : Int → Int} {a b c : Int} (h : a ≤ b) (he : (b - a) % 2 = 0) (h1 : b + 1 < c) : sb f a (c - a).toNat - tw f b = sb (fz f b) a (c - a).toNat := by
  rw [sb_z h he, if_pos (by omega), if_pos (by omega)]
  unfold tw
  omega
noncomputable def fo (v : Int) : Int := v % 65536 + v / 65536
noncomputable def fin (v : Int) : Int := if v ≤ 65535 then v else if fo v ≤ 65535 then fo v else fo (fo v)
/-- what a sum turns into -/
noncomputable def tn (v : Int) : Int := 65535 - fin v
theorem fin_s {v : Int} (h : 65535 < v) (h1 : v < 4294967296) : fin (fo v) = fin v ∧ 0 ≤ fo v ∧ fo v ≤ 131070 ∧ (131070 < v ∨ fo v ≤ 65535) := by
  unfold fin fo
  (repeat' split) <;> omega
theorem fin_e {v : Int} (h : v ≤ 65535) : fin v = v := by
  unfold fin
  rw [if_pos h]
theorem fin_r {v : Int} (h : 0 ≤ v) (h1 : v < 4294967296) : 0 ≤ fin v ∧ fin v ≤ 65535 := by
  unfold fin fo
  (repeat' split) <;> omega
theorem jl_ushr_16 {x : Int} (h : 0 ≤ x ∧ x ≤ 4294967295) : jl_ushr x 16 = x / 65536 := by
  have q := jl_ushr_x (x := x) (s := 16) (by omega) (by omega)
  rw [q]
  rfl
theorem jl_shl_8x {n : Int} (h : 0 ≤ n ∧ n ≤ 65535) : jl_shl n 8 = n * 256 := by
  rw [jl_shl_8, jl_w_id (by omega)]
theorem jl_xor_n (v : Int) (h : 0 ≤ v ∧ v ≤ 65535) : jl_xor v (-1) = -v - 1 := by
  unfold jl_xor
  have e : (Int64.ofInt v ^^^ Int64.ofInt (-1)) = ~~~ (Int64.ofInt v) := by
    apply Int64.toBitVec_inj.mp
    rw [Int64.toBitVec_xor, Int64.toBitVec_not]
    rw [show (Int64.ofInt (-1)).toBitVec = BitVec.allOnes 64 by decide]
    exact BitVec.xor_allOnes
  rw [e]
  have e2 : (~~~ (Int64.ofInt v)).toBitVec.toNat = 18446744073709551615 - v.toNat := by
    rw [Int64.toBitVec_not, BitVec.toNat_not, jbl_tn]
    omega
  rw [jbl_ti, e2]
  split <;> omega
theorem c_PacketWall_addedTwos_pw_L5 {A : Nat → Option (Nat × (Nat → Int32))} {Q : Option Value → jm → Prop} {f : Int → Int} {M : jm} (hC_M : CI M) {x : Nat} (k_x : kd x = 34) {y : Int} {z : Int} (q : ∀ (r : Int), 0 ≤ r ∧ r ≤ 30000000 → (r = sb f y (z - y).toNat) → Q (some (.long (Int64.ofInt r))) M) : ∀ (nM : Nat) (n : Int) (i : Int), 0 ≤ y ∧ y ≤ 400 → 0 ≤ z ∧ z ≤ 400 → 0 ≤ n ∧ n ≤ 26300000 → 0 ≤ i ∧ i ≤ 402 → ((i ≤ z ∧ n = sb f y (i - y).toNat ∧ (i - y) % 2 = 0) ∨ (i = z + 1 ∧ n = sb f y (z - y).toNat)) → (BY8 M x f) → (y ≤ i ∧ y ≤ z ∧ n ≤ 65535 * (i - y)) → z - i ≤ nM → jr A 1 xm_54 5 [(1, .int (Int32.ofInt (y))), (2, .int (Int32.ofInt (z))), (3, .long (Int64.ofInt (n))), (5, .int (Int32.ofInt (i))), (0, .ref (x))] [] M Q := by
  intro nM
  induction nM using Nat.strongRecOn with
  | ind nM ih =>
    intro n i h_y h_z h_n h_i hy0 hy1 hy2 hm
    refine jr.iload rfl rfl ?_
    refine jr.iload_n rfl rfl ?_
    refine jr.icmp_ge rfl rfl (by first | (refine rgb (by assumption) ?_; exact rfl) | omega) (by first | (refine rgb (by assumption) ?_; exact rfl) | omega) (fun h8 => ?_) (fun h8 => ?_)
    · refine jr.lload_n rfl rfl ?_
      exact jr.lreturn rfl rfl (q _ (by omega) (by rcases hy0 with ⟨h1, h2, h3⟩ | ⟨h1, h2⟩; rw [h2, show i = z from by omega]; exact h2))
    · refine jr.lload_n rfl rfl ?_
      refine jr.iload rfl rfl ?_
      refine jr.iconst rfl ?_
      refine jr.iadd rfl ?_
      refine jr.iload_n rfl rfl ?_
      refine jr.icmp_ge rfl rfl (by first | (refine rgb (by assumption) ?_; exact rfl) | omega) (by first | (refine rgb (by assumption) ?_; exact rfl) | omega) (fun h17 => ?_) (fun h17 => ?_)
      · refine jr.aload_n rfl rfl ?_
        refine jr.iload rfl rfl ?_
        refine jr.iconst rfl ?_
        refine jr_s rfl rfl (Or.inl rfl) ⟨Nat.le_of_ble_eq_true rfl, Nat.le_of_ble_eq_true rfl⟩ rfl rfl (jc.deep (c_PacketWall_numberAt_pw hC_M k_x (by omega) (by omega) (by omega) hy1 (fun r1 z1 w1_0 => ?_)) (Nat.le_of_ble_eq_true rfl))
        have hv1 : r1 = f i := (by have hq := w1_0; rw [show (1 : Int).toNat = 1 from rfl, nbs_1, jl_w_id (by have h1 := hy1 i (by omega) (by omega); omega)] at hq; exact hq)
        have hb1 := hy1 i (by omega) (by omega)
        refine jr.bipush rfl (jbp _ (nlt rfl)) ?_
        refine jr.lshl rfl ?_
        have b2 : jl_shl r1 8 = r1 * 256 := jl_shl_8x (by omega)
        generalize jl_shl r1 8 = v2 at b2 ⊢
        refine jr.ladd rfl ?_
        refine jr.lstore_n (ls' := [_, _, _, _, _]) rfl (nlt rfl) rfl ?_
        refine jr.iinc (ls' := [_, _, _, _, _]) rfl rfl (nlt rfl) rfl ?_
        refine jr.goto rfl rfl ?_
        refine jr.pick (ls := [_, _, _, _, _]) [2, 3, 1, 0, 4] rfl rfl ?_
        exact ih (nM - 1) (by omega) (n + v2) (i + 2) (by omega) (by omega) (by omega) (by omega) (by rcases hy0 with ⟨h1, h2, h3⟩ | ⟨h1, h2⟩; exact Or.inr ⟨by omega, by rw [show z = i + 1 from by omega, sb_s (by omega), if_pos (by omega), ← h2]; omega⟩; omega) hy1 (by omega) (by omega)
      · refine jr.aload_n rfl rfl ?_
        refine jr.iload rfl rfl ?_
        refine jr.iconst rfl ?_
        refine jr_s rfl rfl (Or.inl rfl) ⟨Nat.le_of_ble_eq_true rfl, Nat.le_of_ble_eq_true rfl⟩ rfl rfl (jc.deep (c_PacketWall_numberAt_pw hC_M k_x (by omega) (by omega) (by omega) hy1 (fun r3 z3 w3_0 => ?_)) (Nat.le_of_ble_eq_true rfl))
        have hv3 : r3 = f i * 256 + f (i + 1) := (by have hq := w3_0; rw [show (2 : Int).toNat = 2 from rfl, nbs_2, jl_w_id (by have h1 := hy1 i (by omega) (by omega); have h2 := hy1 (i + 1) (by omega) (by omega); omega)] at hq; exact hq)
        have hb1 := hy1 i (by omega) (by omega)
        have hb2 := hy1 (i + 1) (by omega) (by omega)
        refine jr.goto rfl rfl ?_
        refine jr.ladd rfl ?_
        refine jr.lstore_n (ls' := [_, _, _, _, _]) rfl (nlt rfl) rfl ?_
        refine jr.iinc (ls' := [_, _, _, _, _]) rfl rfl (nlt rfl) rfl ?_
        refine jr.goto rfl rfl ?_
        refine jr.pick (ls := [_, _, _, _, _]) [2, 3, 1, 0, 4] rfl rfl ?_
        exact ih (nM - 1) (by omega) (n + r3) (i + 2) (by omega) (by omega) (by omega) (by omega) (by rcases hy0 with ⟨h1, h2, h3⟩ | ⟨h1, h2⟩; exact Or.inl ⟨by omega, by rw [show i + 2 = (i + 1) + 1 from by omega, sb_s (i := i + 1) (by omega), sb_s (by omega), if_pos (by omega), if_neg (by omega), ← h2]; omega, by omega⟩; omega) hy1 (by omega) (by omega)
theorem c_PacketWall_addedTwos_pw {A : Nat → Option (Nat × (Nat → Int32))} {Q : Option Value → jm → Prop} {f : Int → Int} {M : jm} (hC_M : CI M) {x : Nat} (k_x : kd x = 34) {y : Int} (h_y : 0 ≤ y ∧ y ≤ 400) {z : Int} (h_z : 0 ≤ z ∧ z ≤ 400) (p0 : y ≤ z) (p1 : BY8 M x f) (q : ∀ (r : Int), 0 ≤ r ∧ r ≤ 30000000 → (r = sb f y (z - y).toNat) → Q (some (.long (Int64.ofInt r))) M) : jc A 2 54 [.ref (x), .int (Int32.ofInt (y)), .int (Int32.ofInt (z))] M Q := by
  refine jc_of (m := xm_54) rfl (Nat.le_of_ble_eq_true rfl) rfl ?_
  refine jr.lconst (x := 0) rfl (by decide) ?_
  refine jr.lstore_n (ls' := [_, _, _, _]) rfl (nlt rfl) rfl ?_
  refine jr.iload_n rfl rfl ?_
  refine jr.istore (ls' := [_, _, _, _, _]) rfl (nlt rfl) rfl ?_
  refine jr.pick (ls := [_, _, _, _, _]) [3, 4, 1, 0, 2] rfl rfl ?_
  exact c_PacketWall_addedTwos_pw_L5 hC_M k_x q 400 0 y (by omega) (by omega) (by omega) (by omega) (Or.inl ⟨by omega, (sb_0 _ _).symm, by omega⟩) p1 (by omega) (by omega)
theorem c_PacketWall_foldedSum_x_L5 {A : Nat → Option (Nat × (Nat → Int32))} {Q : Option Value → jm → Prop} {M : jm} (hC_M : CI M) {x : Int} (q : ∀ (r : Int), 0 ≤ r ∧ r ≤ 65535 → (r = tn x) → Q (some (.int (Int32.ofInt r))) M) : ∀ (nM : Nat) (n : Int) (i : Int), 0 ≤ n ∧ n ≤ 4294967295 → 0 ≤ i ∧ i ≤ 8 → (fin n = fin x) → ((i = 0) ∨ (i = 1 ∧ n ≤ 131070) ∨ (2 ≤ i ∧ n ≤ 65535)) → 8 - i ≤ nM → jr A 0 xm_55 5 [(2, .long (Int64.ofInt (n))), (4, .int (Int32.ofInt (i)))] [] M Q := by
  intro nM
  induction nM using Nat.strongRecOn with
  | ind nM ih =>
    intro n i h_n h_i hy0 hy1 hm
    refine jr.iload rfl rfl ?_
    refine jr.bipush rfl (jbp _ (nlt rfl)) ?_
    refine jr.icmp_ge rfl rfl (by first | (refine rgb (by assumption) ?_; exact rfl) | omega) (rgl rfl) (fun h9 => ?_) (fun h9 => ?_)
    · refine jr.lload_n rfl rfl ?_
      refine jr.ldc2 (x := (-1)) rfl rfl (by decide) ?_
      refine jr.lxor rfl ?_
      have b1 : jl_xor n (-1) = -n - 1 := jl_xor_n _ (by omega)
      generalize jl_xor n (-1) = v1 at b1 ⊢
      refine jr.l2i rfl ?_
      refine jr.ldcw (x := 65535) rfl rfl (by decide) ?_
      refine jr.iand rfl ?_
      have b2 : j_and v1 65535 = v1 % 65536 := j_and_m 16 (by decide) _
      generalize j_and v1 65535 = v2 at b2 ⊢
      exact jr.ireturn rfl rfl rfl (q _ (by omega) (by unfold tn; rw [← hy0, fin_e (by omega)]; omega))
    · refine jr.lload_n rfl rfl ?_
      refine jr.ldc2 (x := 65535) rfl rfl (by decide) ?_
      refine jr.lcmp_le rfl rfl rfl (by omega) (by omega) (fun h16 => ?_) (fun h16 => ?_)
      · refine jr.lload_n rfl rfl ?_
        refine jr.ldc2 (x := (-1)) rfl rfl (by decide) ?_
        refine jr.lxor rfl ?_
        have b3 : jl_xor n (-1) = -n - 1 := jl_xor_n _ (by omega)
        generalize jl_xor n (-1) = v3 at b3 ⊢
        refine jr.l2i rfl ?_
        refine jr.ldcw (x := 65535) rfl rfl (by decide) ?_
        refine jr.iand rfl ?_
        have b4 : j_and v3 65535 = v3 % 65536 := j_and_m 16 (by decide) _
        generalize j_and v3 65535 = v4 at b4 ⊢
        exact jr.ireturn rfl rfl rfl (q _ (by omega) (by unfold tn; rw [← hy0, fin_e (by omega)]; omega))
      · refine jr.lload_n rfl rfl ?_
        refine jr.ldc2 (x := 65535) rfl rfl (by decide) ?_
        refine jr.land rfl ?_
        have b5 : jl_and n 65535 = n % 65536 := jl_and_mask 16 (by decide) (by omega) (by omega)
        generalize jl_and n 65535 = v5 at b5 ⊢
        refine jr.lload_n rfl rfl ?_
        refine jr.bipush rfl (jbp _ (nlt rfl)) ?_
        refine jr.lushr rfl ?_
        have b6 : jl_ushr n 16 = n / 65536 ∧ 0 ≤ jl_ushr n 16 ∧ jl_ushr n 16 ≤ 65535 := ⟨jl_ushr_16 (by omega), by rw [jl_ushr_16 (by omega)]; omega⟩
        generalize jl_ushr n 16 = v6 at b6 ⊢
        refine jr.ladd rfl ?_
        refine jr.lstore_n (ls' := [_, _]) rfl (nlt rfl) rfl ?_
        refine jr.iinc (ls' := [_, _]) rfl rfl (nlt rfl) rfl ?_
        refine jr.goto rfl rfl ?_
        refine jr.pick (ls := [_, _]) [1, 0] rfl rfl ?_
        exact ih (nM - 1) (by omega) (v5 + v6) (i + 1) (by omega) (by omega) (by have hq := fin_s (v := n) (by omega) (by omega); rw [← hy0, ← hq.1]; unfold fo; congr 1; omega) (by have hq := fin_s (v := n) (by omega) (by omega); unfold fo at hq; omega) (by omega)
theorem c_PacketWall_foldedSum_x {A : Nat → Option (Nat × (Nat → Int32))} {Q : Option Value → jm → Prop} {M : jm} (hC_M : CI M) {x : Int} (h_x : 0 ≤ x ∧ x ≤ 4294967295) (q : ∀ (r : Int), 0 ≤ r ∧ r ≤ 65535 → (r = tn x) → Q (some (.int (Int32.ofInt r))) M) : jc A 1 55 [.long (Int64.ofInt (x))] M Q := by
  refine jc_of (m := xm_55) rfl (Nat.le_of_ble_eq_true rfl) rfl ?_
  refine jr.lload_n rfl rfl ?_
  refine jr.lstore_n (ls' := [_, _]) rfl (nlt rfl) rfl ?_
  refine jr.iconst rfl ?_
  refine jr.istore (ls' := [_, _, _]) rfl (nlt rfl) rfl ?_
  refine jr.pick (ls := [_, _]) [1, 0] rfl rfl ?_
  exact c_PacketWall_foldedSum_x_L5 hC_M  q 8 x 0 (by omega) (by omega) rfl (by omega) (by omega)
end
section
/-! ===== sums of headers ===== -/
/-- the headers of f stand in t, the bytes are f1 by now -/
noncomputable def HS2 (M : jm) (t : Nat) (f f1 : Int → Int) (N : Int) : Prop := BY8 M ((M t 7).toNat + 1) f1 ∧ M (M t 7).toNat 1 = N ∧ (0 ≤ N ∧ N ≤ 400) ∧ HQ M t f N ∧ ∀ i : Int, 0 ≤ i → i < 400 → 0 ≤ f i ∧ f i ≤ 255
theorem HS.two {M : jm} {t : Nat} {f : Int → Int} {N : Int} (h : HS M t f N) : HS2 M t f f N := ⟨h.1, h.2.1, h.2.2.1, h.2.2.2, fun i h0 h1 => (h.1 i h0 h1).2⟩
/-- where the sum of a header of kind k lies -/
noncomputable def sof (k : Int) : Int := if k = 2 then 10 else if k = 7 then 2 else if k = 8 then 16 else 6
/-- the addresses that count for a sum -/
noncomputable def aD (f f1 : Int → Int) (N n : Int) : Int := sb f1 (hY f N n + (if hX f N n = 2 then 12 else 8)) (if hX f N n = 2 then 8 else 16)
noncomputable def dsu (k v : Int) : Int := if k = 9 ∧ v = 0 then 65535 else v
noncomputable def dS0 (f f1 : Int → Int) (N x : Int) : Int := sb (fz f1 (hY f N x + sof (hX f N x))) (hY f N x) ((if hX f N x = 2 then hY f N x + hZ f N x else N) - hY f N x).toNat
/-- the sum that is due -/
noncomputable def dS (f f1 : Int → Int) (N C x : Int) : Int := if kA f N C x = 2 ∨ kA f N C x = 7 then tn (dS0 f f1 N x) else if kA f N C x = 8 ∨ kA f N C x = 9 then (if nxD f N x.toNat = -1 then -1 else dsu (kA f N C x) (tn (dS0 f f1 N x + (aD f f1 N (nxD f N x.toNat) + (N - hY f N x) + (if kA f N C x = 8 then 6 else 17))))) else -1
theorem sof_r (k : Int) : (k ≠ 2 ∨ sof k = 10) ∧ (k ≠ 7 ∨ sof k = 2) ∧ (k ≠ 8 ∨ sof k = 16) ∧ (k ≠ 9 ∨ sof k = 6) := by
  unfold sof
  (repeat' split) <;> omega
theorem c_Headers_sumOffset_x {A : Nat → Option (Nat × (Nat → Int32))} {Q : Option Value → jm → Prop} {M : jm} (hC_M : CI M) {x : Int} (h_x : (-2147483648) ≤ x ∧ x ≤ 2147483647) (q : ∀ (r : Int), 2 ≤ r ∧ r ≤ 16 → (r = sof x) → Q (some (.int (Int32.ofInt r))) M) : jc A 1 124 [.int (Int32.ofInt (x))] M Q := by
  refine jc_of (m := xm_124) rfl (Nat.le_of_ble_eq_true rfl) rfl ?_
  refine jr.iload_n rfl rfl ?_
  rcases (show x = 2 ∨ x = 7 ∨ x = 8 ∨ (x ≠ 2 ∧ x ≠ 7 ∧ x ≠ 8) by omega) with h1 | h1 | h1 | h1
  · refine jr.lsw_k 2 rfl h1 rfl ?_
    refine jr.bipush rfl (jbp _ (nlt rfl)) ?_
    exact jr.ireturn rfl rfl rfl (q _ (by first | exact rgq rfl | omega) (by unfold sof; (repeat' split) <;> omega))
  · refine jr.lsw_k 7 rfl h1 rfl ?_
    refine jr.iconst rfl ?_
    exact jr.ireturn rfl rfl rfl (q _ (by first | exact rgq rfl | omega) (by unfold sof; (repeat' split) <;> omega))
  · refine jr.lsw_k 8 rfl h1 rfl ?_
    refine jr.bipush rfl (jbp _ (nlt rfl)) ?_
    exact jr.ireturn rfl rfl rfl (q _ (by first | exact rgq rfl | omega) (by unfold sof; (repeat' split) <;> omega))
  · refine jr.lsw_d rfl (by omega) rfl (fun q hq => by simp only [List.mem_cons, List.not_mem_nil, or_false] at hq; rcases hq with rfl | rfl | rfl <;> (simp only; omega)) rfl ?_
    refine jr.bipush rfl (jbp _ (nlt rfl)) ?_
    exact jr.ireturn rfl rfl rfl (q _ (by first | exact rgq rfl | omega) (by unfold sof; (repeat' split) <;> omega))
theorem c_Headers_addressTwos_x {A : Nat → Option (Nat × (Nat → Int32))} {Q : Option Value → jm → Prop} {f f1 : Int → Int} {N : Int} {M : jm} (hC_M : CI M) {t : Nat} (k_t : kd t = 18) {x : Int} (h_x : 0 ≤ x ∧ x ≤ 11) {C : Int} (g_C : M t 3 = C) (p0 : HS2 M t f f1 N) (p1 : x < C) (p2 : hX f N x = 2 ∨ hX f N x = 3) (q : ∀ (r : Int), 0 ≤ r ∧ r ≤ 30000000 → (r = aD f f1 N x) → Q (some (.long (Int64.ofInt r))) M) : jc A 3 123 [.ref (t), .int (Int32.ofInt (x))] M Q := by
  refine jc_of (m := xm_123) rfl (Nat.le_of_ble_eq_true rfl) rfl ?_
  have b_C : 0 ≤ C ∧ C ≤ 12 := by rw [← g_C]; exact (CI.r hC_M k_t (by decide) 3)
  refine jr.aload_n rfl rfl ?_
  have k1 := kf_18_1 k_t
  refine jr.getf (i := 1) (v := .ref (t + 2)) rfl rfl (Nat.lt_trans (kx_18 k_t).1 (by decide)) (kx_18 k_t).2 (by decide) rfl rfl rfl (jval_ref rfl k1.1) ?_
  refine jr.iload_n rfl rfl ?_
  obtain ⟨v2, e2⟩ : ∃ z_, M ((t + 2)) x = z_ := ⟨_, rfl⟩
  have b2 : 0 ≤ v2 ∧ v2 ≤ 400 := by rw [← e2]; exact (CI.r hC_M k1.2 (by decide) x)
  refine jr.iald (i := x) (x := v2) rfl (Nat.lt_trans (kx_20 k1.2).1 (by decide)) (kx_20 k1.2).2 (by decide) (by omega) (by omega) e2 ?_
  have hr := p0.2.2.2.1.2.1 x (by omega) (by omega)
  have hl := hok_l hr.1 p0.2.2.2.2 p0.2.2.1.2
  have hN4 := p0.2.2.1
  have hr1 := hr.2.1
  have hr2 := hr.2.2.1
  have hr3 := hr.2.2.2
  have lk := lst_k (hX f N x)
  refine jr.aload_n rfl rfl ?_
  have k3 := kf_18_0 k_t
  refine jr.getf (i := 0) (v := .ref (t + 1)) rfl rfl (Nat.lt_trans (kx_18 k_t).1 (by decide)) (kx_18 k_t).2 (by decide) rfl rfl rfl (jval_ref rfl k3.1) ?_
  refine jr.iload_n rfl rfl ?_
  obtain ⟨v4, e4⟩ : ∃ z_, M ((t + 1)) x = z_ := ⟨_, rfl⟩
  have b4 : 0 ≤ v4 ∧ v4 ≤ 11 := by rw [← e4]; exact (CI.r hC_M k3.2 (by decide) x)
  refine jr.iald (i := x) (x := v4) rfl (Nat.lt_trans (kx_19 k3.2).1 (by decide)) (kx_19 k3.2).2 (by decide) (by omega) (by omega) e4 ?_
  refine jr.iconst rfl ?_
  refine jr.icmp_ne rfl rfl (by first | (refine rgb (by assumption) ?_; exact rfl) | omega) (rgl rfl) (fun h13 => ?_) (fun h13 => ?_)
  · refine jr.bipush rfl (jbp _ (nlt rfl)) ?_
    refine jr.iadd rfl ?_
    refine jr.istore_n (ls' := [_, _, _]) rfl (nlt rfl) rfl ?_
    refine jr.aload_n rfl rfl ?_
    obtain ⟨v5, e5⟩ : ∃ z_, M t 7 = z_ := ⟨_, rfl⟩
    have b5 : 0 ≤ v5 ∧ v5 ≤ 597 := by rw [← e5]; exact (CI.r hC_M k_t (by decide) 7)
    have k6 : kd (v5).toNat = 33 := ((congrArg (fun z : Int => kd z.toNat) (show M t 7 = v5 from e5)).symm.trans (CI.x hC_M k_t 7 rfl (by decide)))
    refine jr.getf (i := 7) (x := v5) (v := .ref (v5.toNat)) rfl rfl (Nat.lt_trans (kx_18 k_t).1 (by decide)) (kx_18 k_t).2 (by decide) rfl rfl e5 (jval_mut rfl (kn_18_7 k_t)) ?_
    have k7 := kf_33_0 k6
    refine jr.getf (i := 0) (v := .ref ((v5.toNat) + 1)) rfl rfl (Nat.lt_trans (kx_33 k6).1 (by decide)) (kx_33 k6).2 (by decide) rfl rfl rfl (jval_ref rfl k7.1) ?_
    refine jr.iload_n rfl rfl ?_
    refine jr.iload_n rfl rfl ?_
    refine jr.aload_n rfl rfl ?_
    have k8 := kf_18_0 k_t
    refine jr.getf (i := 0) (v := .ref (t + 1)) rfl rfl (Nat.lt_trans (kx_18 k_t).1 (by decide)) (kx_18 k_t).2 (by decide) rfl rfl rfl (jval_ref rfl k8.1) ?_
    refine jr.iload_n rfl rfl ?_
    refine jr.iald (i := x) (x := v4) rfl (Nat.lt_trans (kx_19 k8.2).1 (by decide)) (kx_19 k8.2).2 (by decide) (by omega) (by omega) e4 ?_
    refine jr.iconst rfl ?_
    refine jr.icmp_ne rfl rfl (by first | (refine rgb (by assumption) ?_; exact rfl) | omega) (rgl rfl) (fun h41 => ?_) (fun h41 => ?_)
    · refine jr.bipush rfl (jbp _ (nlt rfl)) ?_
      refine jr.iadd rfl ?_
      refine jr_s rfl rfl (Or.inr rfl) ⟨Nat.le_of_ble_eq_true rfl, Nat.le_of_ble_eq_true rfl⟩ rfl rfl (jc.deep (c_PacketWall_addedTwos_pw hC_M k7.2 (by omega) (by omega) (by omega) (by have hq := p0.1; rw [e5] at hq; exact hq) (fun r9 z9 w9_0 => ?_)) (Nat.le_of_ble_eq_true rfl))
      exact jr.lreturn rfl rfl (q _ (by omega) (by unfold aD; rw [← hr1, ← hr2, e4, e2]; first | (rw [if_pos (by omega), if_pos (by omega), w9_0, show v2 + 12 + 8 - (v2 + 12) = 8 from by omega]; rfl) | (rw [if_neg (by omega), if_neg (by omega), w9_0, show v2 + 8 + 16 - (v2 + 8) = 16 from by omega]; rfl) | (exfalso; omega)))
    · exact absurd h13 h41
  · refine jr.bipush rfl (jbp _ (nlt rfl)) ?_
    refine jr.goto rfl rfl ?_
    refine jr.iadd rfl ?_
    refine jr.istore_n (ls' := [_, _, _]) rfl (nlt rfl) rfl ?_
    refine jr.aload_n rfl rfl ?_
    obtain ⟨v11, e11⟩ : ∃ z_, M t 7 = z_ := ⟨_, rfl⟩
    have b11 : 0 ≤ v11 ∧ v11 ≤ 597 := by rw [← e11]; exact (CI.r hC_M k_t (by decide) 7)
    have k12 : kd (v11).toNat = 33 := ((congrArg (fun z : Int => kd z.toNat) (show M t 7 = v11 from e11)).symm.trans (CI.x hC_M k_t 7 rfl (by decide)))
    refine jr.getf (i := 7) (x := v11) (v := .ref (v11.toNat)) rfl rfl (Nat.lt_trans (kx_18 k_t).1 (by decide)) (kx_18 k_t).2 (by decide) rfl rfl e11 (jval_mut rfl (kn_18_7 k_t)) ?_
    have k13 := kf_33_0 k12
    refine jr.getf (i := 0) (v := .ref ((v11.toNat) + 1)) rfl rfl (Nat.lt_trans (kx_33 k12).1 (by decide)) (kx_33 k12).2 (by decide) rfl rfl rfl (jval_ref rfl k13.1) ?_
    refine jr.iload_n rfl rfl ?_
    refine jr.iload_n rfl rfl ?_
    refine jr.aload_n rfl rfl ?_
    have k14 := kf_18_0 k_t
    refine jr.getf (i := 0) (v := .ref (t + 1)) rfl rfl (Nat.lt_trans (kx_18 k_t).1 (by decide)) (kx_18 k_t).2 (by decide) rfl rfl rfl (jval_ref rfl k14.1) ?_
    refine jr.iload_n rfl rfl ?_
    refine jr.iald (i := x) (x := v4) rfl (Nat.lt_trans (kx_19 k14.2).1 (by decide)) (kx_19 k14.2).2 (by decide) (by omega) (by omega) e4 ?_
    refine jr.iconst rfl ?_
    refine jr.icmp_ne rfl rfl (by first | (refine rgb (by assumption) ?_; exact rfl) | omega) (rgl rfl) (fun h41 => ?_) (fun h41 => ?_)
    · exact absurd h41 (by omega)
    · refine jr.bipush rfl (jbp _ (nlt rfl)) ?_
      refine jr.goto rfl rfl ?_
      refine jr.iadd rfl ?_
      refine jr_s rfl rfl (Or.inr rfl) ⟨Nat.le_of_ble_eq_true rfl, Nat.le_of_ble_eq_true rfl⟩ rfl rfl (jc.deep (c_PacketWall_addedTwos_pw hC_M k13.2 (by omega) (by omega) (by omega) (by have hq := p0.1; rw [e11] at hq; exact hq) (fun r15 z15 w15_0 => ?_)) (Nat.le_of_ble_eq_true rfl))
      exact jr.lreturn rfl rfl (q _ (by omega) (by unfold aD; rw [← hr1, ← hr2, e4, e2]; first | (rw [if_pos (by omega), if_pos (by omega), w15_0, show v2 + 12 + 8 - (v2 + 12) = 8 from by omega]; rfl) | (rw [if_neg (by omega), if_neg (by omega), w15_0, show v2 + 8 + 16 - (v2 + 8) = 16 from by omega]; rfl) | (exfalso; omega)))
theorem ds_f {M : jm} {t : Nat} {f f1 : Int → Int} {N C x k : Int} (h : HS2 M t f f1 N) (hC : M t 3 = C) (hk : k = kA f N C x) (h4 : k = 2 ∨ (7 ≤ k ∧ k ≤ 9)) : (0 ≤ x ∧ x < C) ∧ hX f N x = k ∧ M (t + 2) x = hY f N x ∧ M (t + 3) x = hZ f N x ∧ (0 ≤ N ∧ N ≤ 400) ∧ hY f N x + 8 ≤ N ∧ (k ≠ 8 ∨ hY f N x + 20 ≤ N) ∧ (k ≠ 2 ∨ (20 ≤ hZ f N x ∧ hY f N x + hZ f N x ≤ N)) := by
  have hx : 0 ≤ x ∧ x < C := by
    unfold kA at hk
    split at hk <;> omega
  rw [kA_i hx] at hk
  have hr := h.2.2.2.1.2.1 x hx.1 (by omega)
  have hl := hok_l hr.1 h.2.2.2.2 h.2.2.1.2
  rw [← hk] at hl
  have lk := lst_k k
  refine ⟨hx, hk.symm, hr.2.2.1, hr.2.2.2, h.2.2.1, ?_, ?_, ?_⟩
  · rcases h4 with q | q
    · have := lk.1 q; omega
    · rcases (show k = 7 ∨ k = 8 ∨ k = 9 by omega) with q | q | q
      · have := lk.2.2.2.2.2.2.2 (by omega); omega
      · have := lk.2.1 q; omega
      · have := lk.2.2.2.2.2.2.2 (by omega); omega
  · by_cases q : k = 8
    · have := lk.2.1 q; right; omega
    · exact Or.inl q
  · by_cases q : k = 2
    · right; omega
    · exact Or.inl q
theorem dS0_e {f f1 : Int → Int} {N x k Y un : Int} (hk : hX f N x = k) (hy : hY f N x = Y) (hu : (k = 2 ∧ un = Y + hZ f N x) ∨ (k ≠ 2 ∧ un = N)) (h4 : k = 2 ∨ (7 ≤ k ∧ k ≤ 9)) (h0 : 0 ≤ Y) (h8 : Y + 8 ≤ un ∧ un ≤ 400) (h20 : k = 7 ∨ k = 9 ∨ Y + 20 ≤ un) (hf : ∀ i : Int, 0 ≤ i → i < 400 → 0 ≤ f1 i ∧ f1 i ≤ 255) : dS0 f f1 N x = sb f1 Y (un - Y).toNat - tw f1 (Y + sof k) ∧ (0 ≤ dS0 f f1 N x ∧ dS0 f f1 N x ≤ 26112000) ∧ Y + sof k + 1 < un ∧ 0 ≤ sof k ∧ sof k % 2 = 0 := by
  have so := sof_r k
  have s1 : 0 ≤ sof k ∧ sof k % 2 = 0 ∧ Y + sof k + 1 < un := by
    rcases h4 with q | q
    · omega
    · rcases (show k = 7 ∨ k = 8 ∨ k = 9 by omega) with q | q | q <;> omega
  have e : dS0 f f1 N x = sb (fz f1 (Y + sof k)) Y (un - Y).toNat := by
    unfold dS0
    rw [hk, hy]
    rcases hu with ⟨q1, q2⟩ | ⟨q1, q2⟩
    · rw [if_pos q1, q2]
    · rw [if_neg q1, q2]
  rw [e]
  have r := sb_r (f := fz f1 (Y + sof k)) (a := Y) (un - Y).toNat (fun i g0 g1 => by
    have hz := hf i (by omega) (by omega)
    unfold fz
    split <;> omega)
  refine ⟨(sb_zt (by omega) (by omega) (by omega)).symm, ⟨r.1, ?_⟩, s1.2.2, s1.1, s1.2.1⟩
  have : ((un - Y).toNat : Int) ≤ 400 := by omega
  omega
theorem nxD_p {f : Int → Int} {N C x n : Int} (hx : 0 ≤ x ∧ x < C) (hn : n = nxD f N x.toNat) (h1 : n ≠ -1) : (0 ≤ n ∧ n < C) ∧ (hX f N n = 2 ∨ hX f N n = 3) := by
  have q := nxD_r f N x.toNat
  rw [← hn] at q
  rcases q with q | q
  · exact absurd q h1
  · exact ⟨⟨q.1, by omega⟩, q.2.2⟩
theorem c_Headers_kindAt_y {A : Nat → Option (Nat × (Nat → Int32))} {Q : Option Value → jm → Prop} {f f1 : Int → Int} {N : Int} {M : jm} (hC_M : CI M) {t : Nat} (k_t : kd t = 18) {x : Int} (h_x : (-2147483648) ≤ x ∧ x ≤ 2147483647) {C : Int} (g_C : M t 3 = C) (p0 : HS2 M t f f1 N) (q : ∀ (r : Int), (-1) ≤ r ∧ r ≤ 11 → (r = kA f N C x) → Q (some (.int (Int32.ofInt r))) M) : jc A 1 107 [.ref (t), .int (Int32.ofInt (x))] M Q := by
  refine jc_of (m := xm_107) rfl (Nat.le_of_ble_eq_true rfl) rfl ?_
  have b_C : 0 ≤ C ∧ C ≤ 12 := by rw [← g_C]; exact (CI.r hC_M k_t (by decide) 3)
  refine jr.iload_n rfl rfl ?_
  refine jr.if_lt rfl rfl (by first | (refine rgb (by assumption) ?_; exact rfl) | omega) (fun h1 => ?_) (fun h1 => ?_)
  · refine jr.iconst rfl ?_
    exact jr.ireturn rfl rfl rfl (q _ (by first | exact rgq rfl | omega) (by unfold kA; first | (rw [if_neg (by omega)]) | (have hr := p0.2.2.2.1.2.1 x (by omega) (by omega); rw [if_pos (by omega)]; omega)))
  · refine jr.iload_n rfl rfl ?_
    refine jr.aload_n rfl rfl ?_
    refine jr.getf (i := 3) (x := C) (v := .int (Int32.ofInt (C))) rfl rfl (Nat.lt_trans (kx_18 k_t).1 (by decide)) (kx_18 k_t).2 (by decide) rfl rfl g_C rfl ?_
    refine jr.icmp_ge rfl rfl (by first | (refine rgb (by assumption) ?_; exact rfl) | omega) (by first | (refine rgb (by assumption) ?_; exact rfl) | omega) (fun h9 => ?_) (fun h9 => ?_)
    · refine jr.iconst rfl ?_
      exact jr.ireturn rfl rfl rfl (q _ (by first | exact rgq rfl | omega) (by unfold kA; first | (rw [if_neg (by omega)]) | (have hr := p0.2.2.2.1.2.1 x (by omega) (by omega); rw [if_pos (by omega)]; omega)))
    · refine jr.aload_n rfl rfl ?_
      have k1 := kf_18_0 k_t
      refine jr.getf (i := 0) (v := .ref (t + 1)) rfl rfl (Nat.lt_trans (kx_18 k_t).1 (by decide)) (kx_18 k_t).2 (by decide) rfl rfl rfl (jval_ref rfl k1.1) ?_
      refine jr.iload_n rfl rfl ?_
      obtain ⟨v2, e2⟩ : ∃ z_, M ((t + 1)) x = z_ := ⟨_, rfl⟩
      have b2 : 0 ≤ v2 ∧ v2 ≤ 11 := by rw [← e2]; exact (CI.r hC_M k1.2 (by decide) x)
      refine jr.iald (i := x) (x := v2) rfl (Nat.lt_trans (kx_19 k1.2).1 (by decide)) (kx_19 k1.2).2 (by decide) (by omega) (by omega) e2 ?_
      refine jr.goto rfl rfl ?_
      exact jr.ireturn rfl rfl rfl (q _ (by omega) (by unfold kA; first | (rw [if_neg (by omega)]) | (have hr := p0.2.2.2.1.2.1 x (by omega) (by omega); rw [if_pos (by omega)]; omega)))
theorem c_Headers_endOf_y {A : Nat → Option (Nat × (Nat → Int32))} {Q : Option Value → jm → Prop} {f f1 : Int → Int} {N : Int} {M : jm} (hC_M : CI M) {t : Nat} (k_t : kd t = 18) {x : Int} (h_x : (-2147483648) ≤ x ∧ x ≤ 2147483647) {C : Int} (g_C : M t 3 = C) (p0 : HS2 M t f f1 N) (q : ∀ (r : Int), (-400) ≤ r ∧ r ≤ 2448 → (r = enf f N C x) → Q (some (.int (Int32.ofInt r))) M) : jc A 2 118 [.ref (t), .int (Int32.ofInt (x))] M Q := by
  refine jc_of (m := xm_118) rfl (Nat.le_of_ble_eq_true rfl) rfl ?_
  have b_C : 0 ≤ C ∧ C ≤ 12 := by rw [← g_C]; exact (CI.r hC_M k_t (by decide) 3)
  refine jr.aload_n rfl rfl ?_
  refine jr.iload_n rfl rfl ?_
  refine jr_v rfl rfl (Or.inl rfl) rfl rfl (Nat.lt_trans (kx_18 k_t).1 (by decide)) (kx_18 k_t).2 ⟨rfl, Nat.le_of_ble_eq_true rfl, Nat.le_of_ble_eq_true rfl⟩ rfl (jc.deep (c_Headers_hasHeader hC_M k_t (by omega) (fun r1 z1 w1_0 w1_1 => ?_)) (Nat.le_of_ble_eq_true rfl))
  refine jr.if_eq rfl rfl (by first | (refine rgb (by assumption) ?_; exact rfl) | omega) (fun h5 => ?_) (fun h5 => ?_)
  · refine jr.iconst rfl ?_
    exact jr.ireturn rfl rfl rfl (q _ (by first | exact rgq rfl | omega) (by unfold enf; first | (rw [if_neg (by omega)]) | (have hr := p0.2.2.2.1.2.1 x (by omega) (by omega); rw [if_pos (by omega)]; omega)))
  · have sx5 : (1 : Int) ≤ r1 := by omega
    clear h5
    refine jr.aload_n rfl rfl ?_
    have k2 := kf_18_1 k_t
    refine jr.getf (i := 1) (v := .ref (t + 2)) rfl rfl (Nat.lt_trans (kx_18 k_t).1 (by decide)) (kx_18 k_t).2 (by decide) rfl rfl rfl (jval_ref rfl k2.1) ?_
    refine jr.iload_n rfl rfl ?_
    obtain ⟨v3, e3⟩ : ∃ z_, M ((t + 2)) x = z_ := ⟨_, rfl⟩
    have b3 : 0 ≤ v3 ∧ v3 ≤ 400 := by rw [← e3]; exact (CI.r hC_M k2.2 (by decide) x)
    refine jr.iald (i := x) (x := v3) rfl (Nat.lt_trans (kx_20 k2.2).1 (by decide)) (kx_20 k2.2).2 (by decide) (by omega) (by omega) e3 ?_
    refine jr.aload_n rfl rfl ?_
    have k4 := kf_18_2 k_t
    refine jr.getf (i := 2) (v := .ref (t + 3)) rfl rfl (Nat.lt_trans (kx_18 k_t).1 (by decide)) (kx_18 k_t).2 (by decide) rfl rfl rfl (jval_ref rfl k4.1) ?_
    refine jr.iload_n rfl rfl ?_
    obtain ⟨v5, e5⟩ : ∃ z_, M ((t + 3)) x = z_ := ⟨_, rfl⟩
    have b5 : (-400) ≤ v5 ∧ v5 ≤ 2048 := by rw [← e5]; exact (CI.r hC_M k4.2 (by decide) x)
    refine jr.iald (i := x) (x := v5) rfl (Nat.lt_trans (kx_21 k4.2).1 (by decide)) (kx_21 k4.2).2 (by decide) (by omega) (by omega) e5 ?_
    refine jr.iadd rfl ?_
    refine jr.goto rfl rfl ?_
    exact jr.ireturn rfl rfl rfl (q _ (by omega) (by unfold enf; first | (rw [if_neg (by omega)]) | (have hr := p0.2.2.2.1.2.1 x (by omega) (by omega); rw [if_pos (by omega)]; omega)))
theorem c_Headers_dueSum_x {A : Nat → Option (Nat × (Nat → Int32))} {Q : Option Value → jm → Prop} {f f1 : Int → Int} {N : Int} {M : jm} (hC_M : CI M) {t : Nat} (k_t : kd t = 18) {x : Int} (h_x : (-2147483648) ≤ x ∧ x ≤ 2147483647) {C : Int} (g_C : M t 3 = C) (p0 : HS2 M t f f1 N) (q : ∀ (r : Int), (-1) ≤ r ∧ r ≤ 65535 → (r = dS f f1 N C x) → Q (some (.int (Int32.ofInt r))) M) : jc A 4 120 [.ref (t), .int (Int32.ofInt (x))] M Q := by
  refine jc_of (m := xm_120) rfl (Nat.le_of_ble_eq_true rfl) rfl ?_
  have b_C : 0 ≤ C ∧ C ≤ 12 := by rw [← g_C]; exact (CI.r hC_M k_t (by decide) 3)
  refine jr.aload_n rfl rfl ?_
  refine jr.iload_n rfl rfl ?_
  refine jr_v rfl rfl (Or.inl rfl) rfl rfl (Nat.lt_trans (kx_18 k_t).1 (by decide)) (kx_18 k_t).2 ⟨rfl, Nat.le_of_ble_eq_true rfl, Nat.le_of_ble_eq_true rfl⟩ rfl (jc.deep (c_Headers_kindAt_y hC_M k_t (by omega) g_C p0 (fun r1 z1 w1_0 => ?_)) (Nat.le_of_ble_eq_true rfl))
  have hk0 : r1 = -1 ∨ (0 ≤ x ∧ x < C) := (by have hq := w1_0; unfold kA at hq; split at hq <;> omega)
  refine jr.istore_n (ls' := [_, _, _]) rfl (nlt rfl) rfl ?_
  refine jr.iload_n rfl rfl ?_
  refine jr.iconst rfl ?_
  refine jr.icmp_eq rfl rfl (by first | (refine rgb (by assumption) ?_; exact rfl) | omega) (rgl rfl) (fun h8 => ?_) (fun h8 => ?_)
  · refine jr.aload_n rfl rfl ?_
    have k2 := kf_18_1 k_t
    refine jr.getf (i := 1) (v := .ref (t + 2)) rfl rfl (Nat.lt_trans (kx_18 k_t).1 (by decide)) (kx_18 k_t).2 (by decide) rfl rfl rfl (jval_ref rfl k2.1) ?_
    refine jr.iload_n rfl rfl ?_
    obtain ⟨v3, e3⟩ : ∃ z_, M ((t + 2)) x = z_ := ⟨_, rfl⟩
    have b3 : 0 ≤ v3 ∧ v3 ≤ 400 := by rw [← e3]; exact (CI.r hC_M k2.2 (by decide) x)
    refine jr.iald (i := x) (x := v3) rfl (Nat.lt_trans (kx_20 k2.2).1 (by decide)) (kx_20 k2.2).2 (by decide) (by omega) (by omega) e3 ?_
    obtain ⟨hx0, hkx, hyx, hzx, hN4, hA8, hA20, hA2⟩ := ds_f p0 g_C w1_0 (by omega)
    clear hk0
    refine jr.istore_n (ls' := [_, _, _, _]) rfl (nlt rfl) rfl ?_
    refine jr.iload_n rfl rfl ?_
    refine jr.iconst rfl ?_
    refine jr.icmp_ne rfl rfl (by first | (refine rgb (by assumption) ?_; exact rfl) | omega) (rgl rfl) (fun h29 => ?_) (fun h29 => ?_)
    · exact absurd h29 (by omega)
    · refine jr.aload_n rfl rfl ?_
      refine jr.iload_n rfl rfl ?_
      refine jr_v rfl rfl (Or.inl rfl) rfl rfl (Nat.lt_trans (kx_18 k_t).1 (by decide)) (kx_18 k_t).2 ⟨rfl, Nat.le_of_ble_eq_true rfl, Nat.le_of_ble_eq_true rfl⟩ rfl (jc.deep (c_Headers_endOf_y hC_M k_t (by omega) g_C p0 (fun r4 z4 w4_0 => ?_)) (Nat.le_of_ble_eq_true rfl))
      have hen : r4 = hY f N x + hZ f N x := (by rw [w4_0, enf_i hx0])
      refine jr.goto rfl rfl ?_
      refine jr.istore (ls' := [_, _, _, _, _]) rfl (nlt rfl) rfl ?_
      refine jr.aload_n rfl rfl ?_
      obtain ⟨v5, e5⟩ : ∃ z_, M t 7 = z_ := ⟨_, rfl⟩
      have b5 : 0 ≤ v5 ∧ v5 ≤ 597 := by rw [← e5]; exact (CI.r hC_M k_t (by decide) 7)
      have k6 : kd (v5).toNat = 33 := ((congrArg (fun z : Int => kd z.toNat) (show M t 7 = v5 from e5)).symm.trans (CI.x hC_M k_t 7 rfl (by decide)))
      refine jr.getf (i := 7) (x := v5) (v := .ref (v5.toNat)) rfl rfl (Nat.lt_trans (kx_18 k_t).1 (by decide)) (kx_18 k_t).2 (by decide) rfl rfl e5 (jval_mut rfl (kn_18_7 k_t)) ?_
      have k7 := kf_33_0 k6
      refine jr.getf (i := 0) (v := .ref ((v5.toNat) + 1)) rfl rfl (Nat.lt_trans (kx_33 k6).1 (by decide)) (kx_33 k6).2 (by decide) rfl rfl rfl (jval_ref rfl k7.1) ?_
      refine jr.iload_n rfl rfl ?_
      refine jr.iload rfl rfl ?_
      refine jr_s rfl rfl (Or.inr rfl) ⟨Nat.le_of_ble_eq_true rfl, Nat.le_of_ble_eq_true rfl⟩ rfl rfl (jc.deep (c_PacketWall_addedTwos_pw hC_M k7.2 (by omega) (by omega) (by omega) (by have hq := p0.1; rw [e5] at hq; exact hq) (fun r8 z8 w8_0 => ?_)) (Nat.le_of_ble_eq_true rfl))
      refine jr.aload_n rfl rfl ?_
      have k9 : kd (v5).toNat = 33 := ((congrArg (fun z : Int => kd z.toNat) (show M t 7 = v5 from e5)).symm.trans (CI.x hC_M k_t 7 rfl (by decide)))
      refine jr.getf (i := 7) (x := v5) (v := .ref (v5.toNat)) rfl rfl (Nat.lt_trans (kx_18 k_t).1 (by decide)) (kx_18 k_t).2 (by decide) rfl rfl e5 (jval_mut rfl (kn_18_7 k_t)) ?_
      refine jr.iload_n rfl rfl ?_
      refine jr.iload_n rfl rfl ?_
      refine jr_s rfl rfl (Or.inl rfl) ⟨Nat.le_of_ble_eq_true rfl, Nat.le_of_ble_eq_true rfl⟩ rfl rfl (jc.deep (c_Headers_sumOffset_x hC_M (by omega) (fun r10 z10 w10_0 => ?_)) (Nat.le_of_ble_eq_true rfl))
      obtain ⟨hD, hD1, hD2, hD3, hD4⟩ := dS0_e (f := f) (f1 := f1) (N := N) (x := x) (un := r4) hkx (show hY f N x = v3 from by omega) (by omega) (by omega) (by omega) (by omega) (by omega) (fun i h0 h1 => (p0.1 i h0 h1).2)
      rw [← w10_0] at hD hD2 hD3 hD4
      refine jr.iadd rfl ?_
      refine jr.iconst rfl ?_
      refine jr_v rfl rfl (Or.inl rfl) rfl rfl (Nat.lt_trans (kx_33 k9).1 (by decide)) (kx_33 k9).2 ⟨rfl, Nat.le_of_ble_eq_true rfl, Nat.le_of_ble_eq_true rfl⟩ rfl (jc.deep (c_Packet_numberFrom_h hC_M k9 (by omega) (by have hq := p0.1; rw [e5] at hq; exact hq) (fun r11 z11 w11_0 => ?_)) (Nat.le_of_ble_eq_true rfl))
      rw [← w8_0, ← w11_0.1] at hD
      refine jr.lsub rfl ?_
      refine jr.lstore (ls' := [_, _, _, _, _, _]) rfl (nlt rfl) rfl ?_
      refine jr.iload_n rfl rfl ?_
      refine jr.bipush rfl (jbp _ (nlt rfl)) ?_
      refine jr.icmp_eq rfl rfl (by first | (refine rgb (by assumption) ?_; exact rfl) | omega) (rgl rfl) (fun h82 => ?_) (fun h82 => ?_)
      · exact absurd h82 (by omega)
      · refine jr.iload_n rfl rfl ?_
        refine jr.bipush rfl (jbp _ (nlt rfl)) ?_
        refine jr.icmp_ne rfl rfl (by first | (refine rgb (by assumption) ?_; exact rfl) | omega) (rgl rfl) (fun h88 => ?_) (fun h88 => ?_)
        · refine jr.lload rfl rfl ?_
          refine jr_s rfl rfl (Or.inr rfl) ⟨Nat.le_of_ble_eq_true rfl, Nat.le_of_ble_eq_true rfl⟩ rfl rfl (jc.deep (c_PacketWall_foldedSum_x hC_M (by omega) (fun r12 z12 w12_0 => ?_)) (Nat.le_of_ble_eq_true rfl))
          skip
          refine jr.istore (ls' := [_, _, _, _, _, _, _]) rfl (nlt rfl) rfl ?_
          refine jr.iload_n rfl rfl ?_
          refine jr.bipush rfl (jbp _ (nlt rfl)) ?_
          refine jr.icmp_ne rfl rfl (by first | (refine rgb (by assumption) ?_; exact rfl) | omega) (rgl rfl) (fun h148 => ?_) (fun h148 => ?_)
          · refine jr.iload rfl rfl ?_
            exact jr.ireturn rfl rfl rfl (q _ (by omega) (by have hka : kA f N C x = r1 := w1_0.symm; first | (unfold dS; rw [hka, if_pos (by omega), hD, ← w12_0]; done) | (unfold dS; rw [hka, if_pos (by omega), hD, ← w12_0]; omega) | (exfalso; omega)))
          · exact absurd (by omega) h148
        · exact absurd (by omega) h88
  · refine jr.iload_n rfl rfl ?_
    refine jr_s rfl rfl (Or.inr rfl) ⟨Nat.le_of_ble_eq_true rfl, Nat.le_of_ble_eq_true rfl⟩ rfl rfl (jc.deep (c_PacketWall_isCarriedKind_x hC_M (by omega) (fun r13 z13 w13_0 w13_1 => ?_)) (Nat.le_of_ble_eq_true rfl))
    refine jr.if_ne rfl rfl (by first | (refine rgb (by assumption) ?_; exact rfl) | omega) (fun h15 => ?_) (fun h15 => ?_)
    · have sx15 : (1 : Int) ≤ r13 := by omega
      clear h15
      refine jr.aload_n rfl rfl ?_
      have k14 := kf_18_1 k_t
      refine jr.getf (i := 1) (v := .ref (t + 2)) rfl rfl (Nat.lt_trans (kx_18 k_t).1 (by decide)) (kx_18 k_t).2 (by decide) rfl rfl rfl (jval_ref rfl k14.1) ?_
      refine jr.iload_n rfl rfl ?_
      obtain ⟨v15, e15⟩ : ∃ z_, M ((t + 2)) x = z_ := ⟨_, rfl⟩
      have b15 : 0 ≤ v15 ∧ v15 ≤ 400 := by rw [← e15]; exact (CI.r hC_M k14.2 (by decide) x)
      refine jr.iald (i := x) (x := v15) rfl (Nat.lt_trans (kx_20 k14.2).1 (by decide)) (kx_20 k14.2).2 (by decide) (by omega) (by omega) e15 ?_
      obtain ⟨hx0, hkx, hyx, hzx, hN4, hA8, hA20, hA2⟩ := ds_f p0 g_C w1_0 (by omega)
      clear hk0
      refine jr.istore_n (ls' := [_, _, _, _]) rfl (nlt rfl) rfl ?_
      refine jr.iload_n rfl rfl ?_
      refine jr.iconst rfl ?_
      refine jr.icmp_ne rfl rfl (by first | (refine rgb (by assumption) ?_; exact rfl) | omega) (rgl rfl) (fun h29 => ?_) (fun h29 => ?_)
      · refine jr.aload_n rfl rfl ?_
        obtain ⟨v16, e16⟩ : ∃ z_, M t 7 = z_ := ⟨_, rfl⟩
        have b16 : 0 ≤ v16 ∧ v16 ≤ 597 := by rw [← e16]; exact (CI.r hC_M k_t (by decide) 7)
        have k17 : kd (v16).toNat = 33 := ((congrArg (fun z : Int => kd z.toNat) (show M t 7 = v16 from e16)).symm.trans (CI.x hC_M k_t 7 rfl (by decide)))
        refine jr.getf (i := 7) (x := v16) (v := .ref (v16.toNat)) rfl rfl (Nat.lt_trans (kx_18 k_t).1 (by decide)) (kx_18 k_t).2 (by decide) rfl rfl e16 (jval_mut rfl (kn_18_7 k_t)) ?_
        obtain ⟨v18, e18⟩ : ∃ z_, M ((v16.toNat)) 1 = z_ := ⟨_, rfl⟩
        have b18 : (-1) ≤ v18 ∧ v18 ≤ 400 := by rw [← e18]; exact (CI.r hC_M k17 (by decide) 1)
        refine jr.getf (i := 1) (x := v18) (v := .int (Int32.ofInt (v18))) rfl rfl (Nat.lt_trans (kx_33 k17).1 (by decide)) (kx_33 k17).2 (by decide) rfl rfl e18 rfl ?_
        refine jr.istore (ls' := [_, _, _, _, _]) rfl (nlt rfl) rfl ?_
        refine jr.aload_n rfl rfl ?_
        have k19 : kd (v16).toNat = 33 := ((congrArg (fun z : Int => kd z.toNat) (show M t 7 = v16 from e16)).symm.trans (CI.x hC_M k_t 7 rfl (by decide)))
        refine jr.getf (i := 7) (x := v16) (v := .ref (v16.toNat)) rfl rfl (Nat.lt_trans (kx_18 k_t).1 (by decide)) (kx_18 k_t).2 (by decide) rfl rfl e16 (jval_mut rfl (kn_18_7 k_t)) ?_
        have k20 := kf_33_0 k19
        refine jr.getf (i := 0) (v := .ref ((v16.toNat) + 1)) rfl rfl (Nat.lt_trans (kx_33 k19).1 (by decide)) (kx_33 k19).2 (by decide) rfl rfl rfl (jval_ref rfl k20.1) ?_
        refine jr.iload_n rfl rfl ?_
        refine jr.iload rfl rfl ?_
        have hnl : v18 = N := (by have hq := p0.2.1; rw [e16, e18] at hq; exact hq)
        refine jr_s rfl rfl (Or.inr rfl) ⟨Nat.le_of_ble_eq_true rfl, Nat.le_of_ble_eq_true rfl⟩ rfl rfl (jc.deep (c_PacketWall_addedTwos_pw hC_M k20.2 (by omega) (by omega) (by omega) (by have hq := p0.1; rw [e16] at hq; exact hq) (fun r21 z21 w21_0 => ?_)) (Nat.le_of_ble_eq_true rfl))
        refine jr.aload_n rfl rfl ?_
        have k22 : kd (v16).toNat = 33 := ((congrArg (fun z : Int => kd z.toNat) (show M t 7 = v16 from e16)).symm.trans (CI.x hC_M k_t 7 rfl (by decide)))
        refine jr.getf (i := 7) (x := v16) (v := .ref (v16.toNat)) rfl rfl (Nat.lt_trans (kx_18 k_t).1 (by decide)) (kx_18 k_t).2 (by decide) rfl rfl e16 (jval_mut rfl (kn_18_7 k_t)) ?_
        refine jr.iload_n rfl rfl ?_
        refine jr.iload_n rfl rfl ?_
        refine jr_s rfl rfl (Or.inl rfl) ⟨Nat.le_of_ble_eq_true rfl, Nat.le_of_ble_eq_true rfl⟩ rfl rfl (jc.deep (c_Headers_sumOffset_x hC_M (by omega) (fun r23 z23 w23_0 => ?_)) (Nat.le_of_ble_eq_true rfl))
        obtain ⟨hD, hD1, hD2, hD3, hD4⟩ := dS0_e (f := f) (f1 := f1) (N := N) (x := x) (un := v18) hkx (show hY f N x = v15 from by omega) (by omega) (by omega) (by omega) (by omega) (by omega) (fun i h0 h1 => (p0.1 i h0 h1).2)
        rw [← w23_0] at hD hD2 hD3 hD4
        refine jr.iadd rfl ?_
        refine jr.iconst rfl ?_
        refine jr_v rfl rfl (Or.inl rfl) rfl rfl (Nat.lt_trans (kx_33 k22).1 (by decide)) (kx_33 k22).2 ⟨rfl, Nat.le_of_ble_eq_true rfl, Nat.le_of_ble_eq_true rfl⟩ rfl (jc.deep (c_Packet_numberFrom_h hC_M k22 (by omega) (by have hq := p0.1; rw [e16] at hq; exact hq) (fun r24 z24 w24_0 => ?_)) (Nat.le_of_ble_eq_true rfl))
        rw [← w21_0, ← w24_0.1] at hD
        refine jr.lsub rfl ?_
        refine jr.lstore (ls' := [_, _, _, _, _, _]) rfl (nlt rfl) rfl ?_
        refine jr.iload_n rfl rfl ?_
        refine jr.bipush rfl (jbp _ (nlt rfl)) ?_
        refine jr.icmp_eq rfl rfl (by first | (refine rgb (by assumption) ?_; exact rfl) | omega) (rgl rfl) (fun h82 => ?_) (fun h82 => ?_)
        · refine jr.aload_n rfl rfl ?_
          refine jr.iload_n rfl rfl ?_
          refine jr_v rfl rfl (Or.inl rfl) rfl rfl (Nat.lt_trans (kx_18 k_t).1 (by decide)) (kx_18 k_t).2 ⟨rfl, Nat.le_of_ble_eq_true rfl, Nat.le_of_ble_eq_true rfl⟩ rfl (jc.deep (c_Headers_nearestNet_x hC_M k_t (by omega) g_C (fun i h0 h1 => (p0.2.2.2.1.2.1 i h0 (by omega)).2.1) (by omega) (fun r25 z25 w25_0 => ?_)) (Nat.le_of_ble_eq_true rfl))
          have hnd := fun h => nxD_p (n := r25) hx0 w25_0 h
          refine jr.istore (ls' := [_, _, _, _, _, _, _]) rfl (nlt rfl) rfl ?_
          refine jr.iload rfl rfl ?_
          refine jr.iconst rfl ?_
          refine jr.icmp_ne rfl rfl (by first | (refine rgb (by assumption) ?_; exact rfl) | omega) (rgl rfl) (fun h101 => ?_) (fun h101 => ?_)
          · have sx101 : (0 : Int) ≤ r25 := by omega
            clear h101
            refine jr.lload rfl rfl ?_
            refine jr.aload_n rfl rfl ?_
            refine jr.iload rfl rfl ?_
            obtain ⟨hn1, hn2⟩ := hnd (by omega)
            refine jr_v rfl rfl (Or.inl rfl) rfl rfl (Nat.lt_trans (kx_18 k_t).1 (by decide)) (kx_18 k_t).2 ⟨rfl, Nat.le_of_ble_eq_true rfl, Nat.le_of_ble_eq_true rfl⟩ rfl (jc.deep (c_Headers_addressTwos_x hC_M k_t (by omega) g_C p0 hn1.2 hn2 (fun r26 z26 w26_0 => ?_)) (Nat.le_of_ble_eq_true rfl))
            refine jr.iload rfl rfl ?_
            refine jr.iload_n rfl rfl ?_
            refine jr.isub rfl ?_
            refine jr.i2l rfl (by omega) ?_
            refine jr.ladd rfl ?_
            refine jr.iload_n rfl rfl ?_
            refine jr.bipush rfl (jbp _ (nlt rfl)) ?_
            refine jr.icmp_ne rfl rfl (by first | (refine rgb (by assumption) ?_; exact rfl) | omega) (rgl rfl) (fun h123 => ?_) (fun h123 => ?_)
            · exact absurd h123 (by omega)
            · refine jr.bipush rfl (jbp _ (nlt rfl)) ?_
              refine jr.goto rfl rfl ?_
              refine jr.i2l rfl (by omega) ?_
              refine jr.ladd rfl ?_
              refine jr.ladd rfl ?_
              refine jr.lstore (ls' := [_, _, _, _, _, _, _]) rfl (nlt rfl) rfl ?_
              refine jr.lload rfl rfl ?_
              refine jr_s rfl rfl (Or.inr rfl) ⟨Nat.le_of_ble_eq_true rfl, Nat.le_of_ble_eq_true rfl⟩ rfl rfl (jc.deep (c_PacketWall_foldedSum_x hC_M (by omega) (fun r27 z27 w27_0 => ?_)) (Nat.le_of_ble_eq_true rfl))
              skip
              refine jr.istore (ls' := [_, _, _, _, _, _, _]) rfl (nlt rfl) rfl ?_
              refine jr.iload_n rfl rfl ?_
              refine jr.bipush rfl (jbp _ (nlt rfl)) ?_
              refine jr.icmp_ne rfl rfl (by first | (refine rgb (by assumption) ?_; exact rfl) | omega) (rgl rfl) (fun h148 => ?_) (fun h148 => ?_)
              · refine jr.iload rfl rfl ?_
                exact jr.ireturn rfl rfl rfl (q _ (by omega) (by have hka : kA f N C x = r1 := w1_0.symm; first | (unfold dS; rw [hka, if_neg (by omega), if_pos (by omega), ← w25_0, if_neg (by omega), ← w26_0, show hY f N x = v15 from by omega, hD, show N = v18 from by omega, if_pos (by omega), ← w27_0]; unfold dsu; first | (rw [if_pos (by omega)]) | (rw [if_neg (by omega)])) | (unfold dS; rw [hka, if_neg (by omega), if_pos (by omega), ← w25_0, if_neg (by omega), ← w26_0, show hY f N x = v15 from by omega, hD, show N = v18 from by omega, if_neg (by omega), ← w27_0]; unfold dsu; first | (rw [if_pos (by omega)]) | (rw [if_neg (by omega)])) | (exfalso; omega)))
              · exact absurd (by omega) h148
          · refine jr.iconst rfl ?_
            exact jr.ireturn rfl rfl rfl (q _ (by first | exact rgq rfl | omega) (by have hka : kA f N C x = r1 := w1_0.symm; unfold dS; rw [hka, if_neg (by omega), if_pos (by omega), if_pos (by omega)]))
        · refine jr.iload_n rfl rfl ?_
          refine jr.bipush rfl (jbp _ (nlt rfl)) ?_
          refine jr.icmp_ne rfl rfl (by first | (refine rgb (by assumption) ?_; exact rfl) | omega) (rgl rfl) (fun h88 => ?_) (fun h88 => ?_)
          · have sx88 : r1 ≤ (8 : Int) := by omega
            clear h88
            refine jr.lload rfl rfl ?_
            refine jr_s rfl rfl (Or.inr rfl) ⟨Nat.le_of_ble_eq_true rfl, Nat.le_of_ble_eq_true rfl⟩ rfl rfl (jc.deep (c_PacketWall_foldedSum_x hC_M (by omega) (fun r28 z28 w28_0 => ?_)) (Nat.le_of_ble_eq_true rfl))
            skip
            refine jr.istore (ls' := [_, _, _, _, _, _, _]) rfl (nlt rfl) rfl ?_
            refine jr.iload_n rfl rfl ?_
            refine jr.bipush rfl (jbp _ (nlt rfl)) ?_
            refine jr.icmp_ne rfl rfl (by first | (refine rgb (by assumption) ?_; exact rfl) | omega) (rgl rfl) (fun h148 => ?_) (fun h148 => ?_)
            · refine jr.iload rfl rfl ?_
              exact jr.ireturn rfl rfl rfl (q _ (by omega) (by have hka : kA f N C x = r1 := w1_0.symm; first | (unfold dS; rw [hka, if_pos (by omega), hD, ← w28_0]; done) | (unfold dS; rw [hka, if_pos (by omega), hD, ← w28_0]; omega) | (exfalso; omega)))
            · exact absurd (by omega) h148
          · refine jr.aload_n rfl rfl ?_
            refine jr.iload_n rfl rfl ?_
            refine jr_v rfl rfl (Or.inl rfl) rfl rfl (Nat.lt_trans (kx_18 k_t).1 (by decide)) (kx_18 k_t).2 ⟨rfl, Nat.le_of_ble_eq_true rfl, Nat.le_of_ble_eq_true rfl⟩ rfl (jc.deep (c_Headers_nearestNet_x hC_M k_t (by omega) g_C (fun i h0 h1 => (p0.2.2.2.1.2.1 i h0 (by omega)).2.1) (by omega) (fun r29 z29 w29_0 => ?_)) (Nat.le_of_ble_eq_true rfl))
            have hnd := fun h => nxD_p (n := r29) hx0 w29_0 h
            refine jr.istore (ls' := [_, _, _, _, _, _, _]) rfl (nlt rfl) rfl ?_
            refine jr.iload rfl rfl ?_
            refine jr.iconst rfl ?_
            refine jr.icmp_ne rfl rfl (by first | (refine rgb (by assumption) ?_; exact rfl) | omega) (rgl rfl) (fun h101 => ?_) (fun h101 => ?_)
            · have sx101 : (0 : Int) ≤ r29 := by omega
              clear h101
              refine jr.lload rfl rfl ?_
              refine jr.aload_n rfl rfl ?_
              refine jr.iload rfl rfl ?_
              obtain ⟨hn1, hn2⟩ := hnd (by omega)
              refine jr_v rfl rfl (Or.inl rfl) rfl rfl (Nat.lt_trans (kx_18 k_t).1 (by decide)) (kx_18 k_t).2 ⟨rfl, Nat.le_of_ble_eq_true rfl, Nat.le_of_ble_eq_true rfl⟩ rfl (jc.deep (c_Headers_addressTwos_x hC_M k_t (by omega) g_C p0 hn1.2 hn2 (fun r30 z30 w30_0 => ?_)) (Nat.le_of_ble_eq_true rfl))
              refine jr.iload rfl rfl ?_
              refine jr.iload_n rfl rfl ?_
              refine jr.isub rfl ?_
              refine jr.i2l rfl (by omega) ?_
              refine jr.ladd rfl ?_
              refine jr.iload_n rfl rfl ?_
              refine jr.bipush rfl (jbp _ (nlt rfl)) ?_
              refine jr.icmp_ne rfl rfl (by first | (refine rgb (by assumption) ?_; exact rfl) | omega) (rgl rfl) (fun h123 => ?_) (fun h123 => ?_)
              · refine jr.bipush rfl (jbp _ (nlt rfl)) ?_
                refine jr.i2l rfl (by omega) ?_
                refine jr.ladd rfl ?_
                refine jr.ladd rfl ?_
                refine jr.lstore (ls' := [_, _, _, _, _, _, _]) rfl (nlt rfl) rfl ?_
                refine jr.lload rfl rfl ?_
                refine jr_s rfl rfl (Or.inr rfl) ⟨Nat.le_of_ble_eq_true rfl, Nat.le_of_ble_eq_true rfl⟩ rfl rfl (jc.deep (c_PacketWall_foldedSum_x hC_M (by omega) (fun r31 z31 w31_0 => ?_)) (Nat.le_of_ble_eq_true rfl))
                skip
                refine jr.istore (ls' := [_, _, _, _, _, _, _]) rfl (nlt rfl) rfl ?_
                refine jr.iload_n rfl rfl ?_
                refine jr.bipush rfl (jbp _ (nlt rfl)) ?_
                refine jr.icmp_ne rfl rfl (by first | (refine rgb (by assumption) ?_; exact rfl) | omega) (rgl rfl) (fun h148 => ?_) (fun h148 => ?_)
                · exact absurd h148 (by omega)
                · refine jr.iload rfl rfl ?_
                  refine jr.if_ne rfl rfl (by first | (refine rgb (by assumption) ?_; exact rfl) | omega) (fun h153 => ?_) (fun h153 => ?_)
                  · have sx153 : (1 : Int) ≤ r31 := by omega
                    clear h153
                    refine jr.iload rfl rfl ?_
                    exact jr.ireturn rfl rfl rfl (q _ (by omega) (by have hka : kA f N C x = r1 := w1_0.symm; first | (unfold dS; rw [hka, if_neg (by omega), if_pos (by omega), ← w29_0, if_neg (by omega), ← w30_0, show hY f N x = v15 from by omega, hD, show N = v18 from by omega, if_pos (by omega), ← w31_0]; unfold dsu; first | (rw [if_pos (by omega)]) | (rw [if_neg (by omega)])) | (unfold dS; rw [hka, if_neg (by omega), if_pos (by omega), ← w29_0, if_neg (by omega), ← w30_0, show hY f N x = v15 from by omega, hD, show N = v18 from by omega, if_neg (by omega), ← w31_0]; unfold dsu; first | (rw [if_pos (by omega)]) | (rw [if_neg (by omega)])) | (exfalso; omega)))
                  · refine jr.ldc (x := 65535) rfl rfl (by decide) ?_
                    refine jr.goto rfl rfl ?_
                    exact jr.ireturn rfl rfl rfl (q _ (by omega) (by have hka : kA f N C x = r1 := w1_0.symm; first | (unfold dS; rw [hka, if_neg (by omega), if_pos (by omega), ← w29_0, if_neg (by omega), ← w30_0, show hY f N x = v15 from by omega, hD, show N = v18 from by omega, if_pos (by omega), ← w31_0]; unfold dsu; first | (rw [if_pos (by omega)]) | (rw [if_neg (by omega)])) | (unfold dS; rw [hka, if_neg (by omega), if_pos (by omega), ← w29_0, if_neg (by omega), ← w30_0, show hY f N x = v15 from by omega, hD, show N = v18 from by omega, if_neg (by omega), ← w31_0]; unfold dsu; first | (rw [if_pos (by omega)]) | (rw [if_neg (by omega)])) | (exfalso; omega)))
              · exact absurd (by omega) h123
            · refine jr.iconst rfl ?_
              exact jr.ireturn rfl rfl rfl (q _ (by first | exact rgq rfl | omega) (by have hka : kA f N C x = r1 := w1_0.symm; unfold dS; rw [hka, if_neg (by omega), if_pos (by omega), if_pos (by omega)]))
      · exact absurd (by omega) h29
    · refine jr.iconst rfl ?_
      exact jr.ireturn rfl rfl rfl (q _ (by first | exact rgq rfl | omega) (by have hka : kA f N C x = r1 := w1_0.symm; unfold dS; rw [hka, if_neg (by omega), if_neg (by omega)]))
end
section
/-! ===== the class: mend ===== -/
theorem dS_in {f f1 : Int → Int} {N C x d : Int} (hd : d = dS f f1 N C x) : d = -1 ∨ ((0 ≤ x ∧ x < C) ∧ (kA f N C x = 2 ∨ (7 ≤ kA f N C x ∧ kA f N C x ≤ 9))) := by
  by_cases q : kA f N C x = 2 ∨ (7 ≤ kA f N C x ∧ kA f N C x ≤ 9)
  · refine Or.inr ⟨?_, q⟩
    unfold kA at q
    split at q
    · assumption
    · omega
  · left
    rw [hd]
    unfold dS
    rw [if_neg (by omega), if_neg (by omega)]
/-- bytes with a number of n bytes laid at y -/
noncomputable def ptn (f : Int → Int) (y n v : Int) : Int → Int := fun k => if y ≤ k ∧ k < y + n then bt v (y + n - 1 - k) else f k
theorem PN.by8 {T M : jm} {c : Nat} {f : Int → Int} {y n v : Int} (h : PN T M c y n v n 400) (hb : BY8 T c f) : BY8 M c (ptn f y n v) := fun i h0 h1 => by
  rw [h.1 i]
  unfold pnf ptn
  by_cases q : y ≤ i ∧ i < y + n
  · rw [if_pos (by omega), if_pos q, show y + n - 1 - i = y + n - 1 - i from rfl]
    exact ⟨rfl, bt_r _ _⟩
  · rw [if_neg (by omega), if_neg q]
    exact hb i h0 h1
noncomputable def mdt (f f1 : Int → Int) (N C x : Int) : Int := hY f N x + sof (hX f N x)
/-- bytes behind mend(x) -/
noncomputable def mdF (f : Int → Int) (N C x : Int) (f1 : Int → Int) : Int → Int := if dS f f1 N C x = -1 then f1 else ptn f1 (hY f N x + sof (hX f N x)) 2 (dS f f1 N C x)
noncomputable def mdR (f : Int → Int) (N C x : Int) (f1 : Int → Int) : Int := if dS f f1 N C x = -1 then 0 else if tw f1 (hY f N x + sof (hX f N x)) = dS f f1 N C x then 0 else 1
/-- one row has changed, the rest is as it was -/
noncomputable def OR1 (T M : jm) (c : Nat) : Prop := ∀ (b : Nat) (k : Int), b ≠ c → M b k = T b k
theorem byM {M : jm} {t : Nat} {f f1 : Int → Int} {N S : Int} (h : HS2 M t f f1 N) (hS : M t 7 = S) : BY8 M (S.toNat + 1) f1 := by
  have q := h.1
  rw [hS] at q
  exact q
noncomputable def W_c_Headers_mend_x : List (Nat × Nat) := [(34, 1000)]
theorem c_Headers_mend_x {A : Nat → Option (Nat × (Nat → Int32))} {Q : Option Value → jm → Prop} {f f1 : Int → Int} {N : Int} {T : jm} {M : jm} (hC_M : CI M) (ht_M : FR W_c_Headers_mend_x T M) {t : Nat} (k_t : kd t = 18) {x : Int} (h_x : (-2147483648) ≤ x ∧ x ≤ 2147483647) {C : Int} (g_C : M t 3 = C) {S : Int} (g_S : M t 7 = S) (p0 : T = M) (p1 : HS2 M t f f1 N) (q : ∀ (r : Int) (M' : jm), CI M' → FR W_c_Headers_mend_x T M' → 0 ≤ r ∧ r ≤ 1 → (r = mdR f N C x f1 ∧ BY8 M' (S.toNat + 1) (mdF f N C x f1) ∧ OR1 T M' (S.toNat + 1)) → Q (some (.int (Int32.ofInt r))) M') : jc A 5 121 [.ref (t), .int (Int32.ofInt (x))] M Q := by
  refine jc_of (m := xm_121) rfl (Nat.le_of_ble_eq_true rfl) rfl ?_
  have b_C : 0 ≤ C ∧ C ≤ 12 := by rw [← g_C]; exact (CI.r hC_M k_t (by decide) 3)
  have k_S : kd S.toNat = 33 := (congrArg (fun z : Int => kd z.toNat) g_S).symm.trans (CI.x hC_M k_t 7 rfl (by decide))
  refine jr.aload_n rfl rfl ?_
  refine jr.iload_n rfl rfl ?_
  refine jr_v rfl rfl (Or.inl rfl) rfl rfl (Nat.lt_trans (kx_18 k_t).1 (by decide)) (kx_18 k_t).2 ⟨rfl, Nat.le_of_ble_eq_true rfl, Nat.le_of_ble_eq_true rfl⟩ rfl (jc.deep (c_Headers_dueSum_x hC_M k_t (by omega) g_C p1 (fun r1 z1 w1_0 => ?_)) (Nat.le_of_ble_eq_true rfl))
  have hds := dS_in (d := r1) w1_0
  refine jr.istore_n (ls' := [_, _, _]) rfl (nlt rfl) rfl ?_
  refine jr.iload_n rfl rfl ?_
  refine jr.iconst rfl ?_
  refine jr.icmp_ne rfl rfl (by first | (refine rgb (by assumption) ?_; exact rfl) | omega) (rgl rfl) (fun h8 => ?_) (fun h8 => ?_)
  · refine jr.aload_n rfl rfl ?_
    have k2 := kf_18_1 k_t
    refine jr.getf (i := 1) (v := .ref (t + 2)) rfl rfl (Nat.lt_trans (kx_18 k_t).1 (by decide)) (kx_18 k_t).2 (by decide) rfl rfl rfl (jval_ref rfl k2.1) ?_
    refine jr.iload_n rfl rfl ?_
    obtain ⟨v3, e3⟩ : ∃ z_, M ((t + 2)) x = z_ := ⟨_, rfl⟩
    have b3 : 0 ≤ v3 ∧ v3 ≤ 400 := by rw [← e3]; exact (CI.r hC_M k2.2 (by decide) x)
    refine jr.iald (i := x) (x := v3) rfl (Nat.lt_trans (kx_20 k2.2).1 (by decide)) (kx_20 k2.2).2 (by decide) (by omega) (by omega) e3 ?_
    obtain ⟨hx0, hkx, hyx, hzx, hN4, hA8, hA20, hA2⟩ := ds_f p1 g_C rfl (show kA f N C x = 2 ∨ (7 ≤ kA f N C x ∧ kA f N C x ≤ 9) from (hds.resolve_left (by omega)).2)
    have hr1 := (p1.2.2.2.1.2.1 x hx0.1 (by omega)).2.1
    have so := sof_r (hX f N x)
    refine jr.aload_n rfl rfl ?_
    have k4 := kf_18_0 k_t
    refine jr.getf (i := 0) (v := .ref (t + 1)) rfl rfl (Nat.lt_trans (kx_18 k_t).1 (by decide)) (kx_18 k_t).2 (by decide) rfl rfl rfl (jval_ref rfl k4.1) ?_
    refine jr.iload_n rfl rfl ?_
    obtain ⟨v5, e5⟩ : ∃ z_, M ((t + 1)) x = z_ := ⟨_, rfl⟩
    have b5 : 0 ≤ v5 ∧ v5 ≤ 11 := by rw [← e5]; exact (CI.r hC_M k4.2 (by decide) x)
    refine jr.iald (i := x) (x := v5) rfl (Nat.lt_trans (kx_19 k4.2).1 (by decide)) (kx_19 k4.2).2 (by decide) (by omega) (by omega) e5 ?_
    refine jr_s rfl rfl (Or.inl rfl) ⟨Nat.le_of_ble_eq_true rfl, Nat.le_of_ble_eq_true rfl⟩ rfl rfl (jc.deep (c_Headers_sumOffset_x hC_M (by omega) (fun r6 z6 w6_0 => ?_)) (Nat.le_of_ble_eq_true rfl))
    have hs5 : r6 = sof (hX f N x) := (by rw [w6_0, ← e5, hr1])
    refine jr.iadd rfl ?_
    refine jr.istore_n (ls' := [_, _, _, _]) rfl (nlt rfl) rfl ?_
    refine jr.aload_n rfl rfl ?_
    refine jr.getf (i := 7) (x := S) (v := .ref (S.toNat)) rfl rfl (Nat.lt_trans (kx_18 k_t).1 (by decide)) (kx_18 k_t).2 (by decide) rfl rfl g_S (jval_mut rfl (kn_18_7 k_t)) ?_
    refine jr.iload_n rfl rfl ?_
    refine jr.iconst rfl ?_
    refine jr_v rfl rfl (Or.inl rfl) rfl rfl (Nat.lt_trans (kx_33 k_S).1 (by decide)) (kx_33 k_S).2 ⟨rfl, Nat.le_of_ble_eq_true rfl, Nat.le_of_ble_eq_true rfl⟩ rfl (jc.deep (c_Packet_numberFrom_h hC_M k_S (by omega) (by have hq := p1.1; rw [g_S] at hq; exact hq) (fun r8 z8 w8_0 => ?_)) (Nat.le_of_ble_eq_true rfl))
    refine jr.lstore (ls' := [_, _, _, _, _]) rfl (nlt rfl) rfl ?_
    refine jr.aload_n rfl rfl ?_
    refine jr.getf (i := 7) (x := S) (v := .ref (S.toNat)) rfl rfl (Nat.lt_trans (kx_18 k_t).1 (by decide)) (kx_18 k_t).2 (by decide) rfl rfl g_S (jval_mut rfl (kn_18_7 k_t)) ?_
    have k10 := kf_33_0 k_S
    refine jr.getf (i := 0) (v := .ref ((S.toNat) + 1)) rfl rfl (Nat.lt_trans (kx_33 k_S).1 (by decide)) (kx_33 k_S).2 (by decide) rfl rfl rfl (jval_ref rfl k10.1) ?_
    refine jr.iload_n rfl rfl ?_
    refine jr.iconst rfl ?_
    refine jr.iload_n rfl rfl ?_
    refine jr.i2l rfl (by omega) ?_
    refine jr_s rfl rfl (Or.inr rfl) ⟨Nat.le_of_ble_eq_true rfl, Nat.le_of_ble_eq_true rfl⟩ rfl rfl (jc.deep (c_PacketWall_putNumber_pf hC_M (FR.rfl _ M) k10.2 (by omega) (by omega) (by omega) rfl (fun M11 hC_M11 hf_M11 w11_0 => ?_)) (Nat.le_of_ble_eq_true rfl))
    have ht_M11 : FR W_c_Headers_mend_x T M11 := FR.t ht_M hf_M11 (kw_sub rfl)
    refine jr.lload rfl rfl ?_
    refine jr.iload_n rfl rfl ?_
    refine jr.i2l rfl (by omega) ?_
    refine jr.lcmp_eq rfl rfl rfl (by omega) (by omega) (fun h59 => ?_) (fun h59 => ?_)
    · refine jr.iconst rfl ?_
      exact jr.ireturn rfl rfl rfl (q _ _ hC_M11 ht_M11 (by first | exact rgq rfl | omega) (by have hat : hY f N x + sof (hX f N x) = v3 + r6 := (by rw [w6_0, ← hr1, e5]; omega); have hne : ¬ r1 = -1 := (by omega); have e1 : mdR f N C x f1 = (if tw f1 (v3 + r6) = r1 then 0 else 1) := (by unfold mdR; rw [← w1_0, if_neg hne, hat]); have e2 : mdF f N C x f1 = ptn f1 (v3 + r6) 2 r1 := (by unfold mdF; rw [← w1_0, if_neg hne, hat]); rw [e1, e2, ← w8_0.1]; refine ⟨?_, PN.by8 w11_0 (byM p1 g_S), fun b k hb => by rw [w11_0.2 b k hb, p0]⟩; first | (rw [if_pos (by omega)]) | (rw [if_neg (by omega)])))
    · refine jr.iconst rfl ?_
      refine jr.goto rfl rfl ?_
      exact jr.ireturn rfl rfl rfl (q _ _ hC_M11 ht_M11 (by first | exact rgq rfl | omega) (by have hat : hY f N x + sof (hX f N x) = v3 + r6 := (by rw [w6_0, ← hr1, e5]; omega); have hne : ¬ r1 = -1 := (by omega); have e1 : mdR f N C x f1 = (if tw f1 (v3 + r6) = r1 then 0 else 1) := (by unfold mdR; rw [← w1_0, if_neg hne, hat]); have e2 : mdF f N C x f1 = ptn f1 (v3 + r6) 2 r1 := (by unfold mdF; rw [← w1_0, if_neg hne, hat]); rw [e1, e2, ← w8_0.1]; refine ⟨?_, PN.by8 w11_0 (byM p1 g_S), fun b k hb => by rw [w11_0.2 b k hb, p0]⟩; first | (rw [if_pos (by omega)]) | (rw [if_neg (by omega)])))
  · refine jr.iconst rfl ?_
    exact jr.ireturn rfl rfl rfl (q _ _ hC_M ht_M (by first | exact rgq rfl | omega) (by unfold mdR mdF; rw [← w1_0, if_pos (by omega), if_pos (by omega)]; exact ⟨rfl, byM p1 g_S, fun _ _ _ => by rw [p0]⟩))
end
