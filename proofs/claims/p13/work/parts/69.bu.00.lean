section
/-! ===== long numbers, and the values of fields ===== -/
theorem jeqL {z : Int64} {y : Int} (h : z.toBitVec.toNat = (y % 18446744073709551616).toNat) : z.toInt = jl_w y := by
  unfold jl_w
  rw [jbl_ti, jbl_ti, jbl_tn, h]
theorem jlw_m (x : Int) : jl_w x % 18446744073709551616 = x % 18446744073709551616 := by
  unfold jl_w
  rw [jbl_ti, jbl_tn]
  split <;> omega
theorem jlw_c {x y : Int} (h : x % 18446744073709551616 = y % 18446744073709551616) : jl_w x = jl_w y := by
  unfold jl_w
  rw [jbl_ti, jbl_ti, jbl_tn, jbl_tn, h]
theorem jl_shl_8 (n : Int) : jl_shl n 8 = jl_w (n * 256) := by
  unfold jl_shl
  apply jeqL
  rw [Int64.toBitVec_shiftLeft]
  show ((Int64.ofInt n).toBitVec <<< (((Int32.ofInt ((8 : Nat) : Int)).toInt64 &&& 63).toBitVec.smod 64).toNat).toNat = _
  rw [jbl_sl 8 (by decide), BitVec.toNat_shiftLeft, jbl_tn, Nat.shiftLeft_eq]
  omega
theorem jl_shl_16 (n : Int) : jl_shl n 16 = jl_w (n * 65536) := by
  unfold jl_shl
  apply jeqL
  rw [Int64.toBitVec_shiftLeft]
  show ((Int64.ofInt n).toBitVec <<< (((Int32.ofInt ((16 : Nat) : Int)).toInt64 &&& 63).toBitVec.smod 64).toNat).toNat = _
  rw [jbl_sl 16 (by decide), BitVec.toNat_shiftLeft, jbl_tn, Nat.shiftLeft_eq]
  omega
theorem jl_shl_32 (n : Int) : jl_shl n 32 = jl_w (n * 4294967296) := by
  unfold jl_shl
  apply jeqL
  rw [Int64.toBitVec_shiftLeft]
  show ((Int64.ofInt n).toBitVec <<< (((Int32.ofInt ((32 : Nat) : Int)).toInt64 &&& 63).toBitVec.smod 64).toNat).toNat = _
  rw [jbl_sl 32 (by decide), BitVec.toNat_shiftLeft, jbl_tn, Nat.shiftLeft_eq]
  omega
theorem jl_or_8 {m b : Int} (hb : 0 ≤ b ∧ b < 256) : jl_or (jl_w (m * 256)) b = jl_w (m * 256 + b) := by
  unfold jl_or
  apply jeqL
  rw [Int64.toBitVec_or, BitVec.toNat_or, jbl_tn, jbl_tn, jlw_m]
  rw [show (m * 256 % 18446744073709551616).toNat = 2 ^ 8 * (m % 72057594037927936).toNat by omega, show (b % 18446744073709551616).toNat = b.toNat by omega]
  rw [← Nat.two_pow_add_eq_or_of_lt (show b.toNat < 2 ^ 8 by omega)]
  omega
theorem jl_or_16 {m b : Int} (hb : 0 ≤ b ∧ b < 65536) : jl_or (jl_w (m * 65536)) b = jl_w (m * 65536 + b) := by
  unfold jl_or
  apply jeqL
  rw [Int64.toBitVec_or, BitVec.toNat_or, jbl_tn, jbl_tn, jlw_m]
  rw [show (m * 65536 % 18446744073709551616).toNat = 2 ^ 16 * (m % 281474976710656).toNat by omega, show (b % 18446744073709551616).toNat = b.toNat by omega]
  rw [← Nat.two_pow_add_eq_or_of_lt (show b.toNat < 2 ^ 16 by omega)]
  omega
theorem jl_or_32 {m b : Int} (hb : 0 ≤ b ∧ b < 4294967296) : jl_or (jl_w (m * 4294967296)) b = jl_w (m * 4294967296 + b) := by
  unfold jl_or
  apply jeqL
  rw [Int64.toBitVec_or, BitVec.toNat_or, jbl_tn, jbl_tn, jlw_m]
  rw [show (m * 4294967296 % 18446744073709551616).toNat = 2 ^ 32 * (m % 4294967296).toNat by omega, show (b % 18446744073709551616).toNat = b.toNat by omega]
  rw [← Nat.two_pow_add_eq_or_of_lt (show b.toNat < 2 ^ 32 by omega)]
  omega
theorem jl_sho_w {n b : Int} (hb : 0 ≤ b ∧ b < 256) : jl_or (jl_shl n 8) b = jl_w (n * 256 + b) := by rw [jl_shl_8, jl_or_8 hb]
theorem jl_ushr_x {x s : Int} (h0 : 0 ≤ x ∧ x ≤ 9223372036854775807) (hs : 0 ≤ s ∧ s < 64) : jl_ushr x s = x / ((2 ^ s.toNat : Nat) : Int) := by
  obtain ⟨k, rfl⟩ := Int.eq_ofNat_of_zero_le hs.1
  obtain ⟨n, rfl⟩ := Int.eq_ofNat_of_zero_le h0.1
  have hk : k < 64 := by omega
  rw [show ((k : Nat) : Int).toNat = k by omega]
  unfold jl_ushr
  have hN : ((Int64.ofInt (n : Int)).toUInt64 >>> ((Int32.ofInt (k : Nat)).toInt64.toUInt64 &&& Int64.toUInt64 63)).toInt64.toBitVec.toNat = n / 2 ^ k := by
    show ((Int64.ofInt (n : Int)).toUInt64 >>> ((Int32.ofInt (k : Nat)).toInt64.toUInt64 &&& Int64.toUInt64 63)).toBitVec.toNat = _
    rw [UInt64.toBitVec_shiftRight]
    show ((Int64.ofInt (n : Int)).toBitVec >>> ((((Int32.ofInt (k : Nat)).toInt64.toUInt64 &&& Int64.toUInt64 63).toBitVec % 64))).toNat = _
    rw [BitVec.ushiftRight_eq', BitVec.toNat_ushiftRight, jbl_su k hk, jbl_tn, Nat.shiftRight_eq_div_pow]
    rw [show ((n : Int) % 18446744073709551616).toNat = n by omega]
  have hle : n / 2 ^ k ≤ n := Nat.div_le_self _ _
  rw [jbl_ti, hN, if_pos (by omega)]
  exact Int.natCast_ediv n (2 ^ k)
theorem jl_ushr_xb {x s : Int} (h0 : 0 ≤ x ∧ x ≤ 9223372036854775807) (hs : 0 ≤ s ∧ s < 64) : jl_ushr x s = x / ((2 ^ s.toNat : Nat) : Int) ∧ 0 ≤ jl_ushr x s ∧ jl_ushr x s ≤ x := by
  rw [jl_ushr_x h0 hs]
  exact ⟨rfl, Int.ediv_nonneg h0.1 (Int.natCast_nonneg _), Int.ediv_le_self _ h0.1⟩
theorem jl_shl_10 : ∀ k : Nat, k < 33 → jl_shl 1 ((k : Nat) : Int) = ((2 ^ k : Nat) : Int) ∧ 2 ^ k ≤ 4294967296 := by decide +kernel
theorem jl_shl_1 {b : Int} (h : 0 ≤ b ∧ b ≤ 32) : jl_shl 1 b = ((2 ^ b.toNat : Nat) : Int) ∧ 1 ≤ jl_shl 1 b ∧ jl_shl 1 b ≤ 4294967296 := by
  obtain ⟨k, rfl⟩ := Int.eq_ofNat_of_zero_le h.1
  have q := jl_shl_10 k (by omega)
  have hp := Nat.two_pow_pos k
  rw [show ((k : Nat) : Int).toNat = k by omega]
  refine ⟨q.1, ?_, ?_⟩
  · rw [q.1]; omega
  · rw [q.1]; omega
theorem jl_and_p {x b P : Int} (hx : 0 ≤ x ∧ x ≤ 9223372036854775807) (h : 0 ≤ b ∧ b ≤ 32) (hP : P = ((2 ^ b.toNat : Nat) : Int)) : jl_and x (P - 1) = x % P ∧ 0 ≤ jl_and x (P - 1) ∧ jl_and x (P - 1) ≤ x := by
  have hp := Nat.two_pow_pos b.toNat
  have q := jl_and_mask (x := x) b.toNat (by omega) hx.1 hx.2
  rw [show ((2 ^ b.toNat - 1 : Nat) : Int) = P - 1 by omega, ← hP] at q
  rw [q]
  refine ⟨rfl, Int.emod_nonneg _ (by omega), ?_⟩
  by_cases hl : x < P
  · rw [Int.emod_eq_of_lt hx.1 hl]; omega
  · have := Int.emod_lt_of_pos x (show 0 < P by omega)
    omega
theorem jl_and_1 (x : Int) : jl_and x 1 = x % 2 := by
  unfold jl_and
  have hN : (Int64.ofInt x &&& Int64.ofInt 1).toBitVec.toNat = (x % 18446744073709551616).toNat % 2 ^ 1 := by
    rw [Int64.toBitVec_and, BitVec.toNat_and, jbl_tn, jbl_tn]
    exact Nat.and_two_pow_sub_one_eq_mod _ 1
  rw [jbl_ti, hN]
  split <;> omega
theorem nbs_3 (f : Int → Int) (y : Int) : nbs f y 3 = (f y * 256 + f (y + 1)) * 256 + f (y + 2) := by
  show nbs f y 2 * 256 + f (y + ((2 : Nat) : Int)) = _
  rw [nbs_2]
  rfl
theorem nbs_4 (f : Int → Int) (y : Int) : nbs f y 4 = ((f y * 256 + f (y + 1)) * 256 + f (y + 2)) * 256 + f (y + 3) := by
  show nbs f y 3 * 256 + f (y + ((3 : Nat) : Int)) = _
  rw [nbs_3]
  rfl
theorem nbs_8 (f : Int → Int) (y : Int) : nbs f y 8 = nbs f y 4 * 4294967296 + nbs f (y + 4) 4 := by
  show (((nbs f y 4 * 256 + f (y + ((4 : Nat) : Int))) * 256 + f (y + ((5 : Nat) : Int))) * 256 + f (y + ((6 : Nat) : Int))) * 256 + f (y + ((7 : Nat) : Int)) = _
  rw [nbs_4 f (y + 4), show y + 4 + 1 = y + ((5 : Nat) : Int) by omega, show y + 4 + 2 = y + ((6 : Nat) : Int) by omega, show y + 4 + 3 = y + ((7 : Nat) : Int) by omega, show y + ((4 : Nat) : Int) = y + 4 by omega]
  omega
theorem nbs_r4 {f : Int → Int} {y : Int} {n : Nat} (hn : n ≤ 4) (h : ∀ i : Int, y ≤ i → i < y + n → 0 ≤ f i ∧ f i ≤ 255) : 0 ≤ nbs f y n ∧ nbs f y n < 4294967296 := by
  rcases (show n = 0 ∨ n = 1 ∨ n = 2 ∨ n = 3 ∨ n = 4 by omega) with rfl | rfl | rfl | rfl | rfl
  · exact ⟨Int.le_refl _, show (0 : Int) < 4294967296 by decide⟩
  · have a := h y (by omega) (by omega)
    rw [nbs_1]; omega
  · have a := h y (by omega) (by omega)
    have b := h (y + 1) (by omega) (by omega)
    rw [nbs_2]; omega
  · have a := h y (by omega) (by omega)
    have b := h (y + 1) (by omega) (by omega)
    have c := h (y + 2) (by omega) (by omega)
    rw [nbs_3]; omega
  · have a := h y (by omega) (by omega)
    have b := h (y + 1) (by omega) (by omega)
    have c := h (y + 2) (by omega) (by omega)
    have d := h (y + 3) (by omega) (by omega)
    rw [nbs_4]; omega
/-- the value of field j of a header of kind k at a, size z -/
noncomputable def vof (f : Int → Int) (z k a j : Int) : Int := if k = 11 then z else if 64 ≤ xcv_4 (4 * (xcv_3 k + j) + 3) then jl_w (nbs f (a + xcv_4 (4 * (xcv_3 k + j))) (xcv_4 (4 * (xcv_3 k + j) + 1)).toNat) else nbs f (a + xcv_4 (4 * (xcv_3 k + j))) (xcv_4 (4 * (xcv_3 k + j) + 1)).toNat / ((2 ^ (xcv_4 (4 * (xcv_3 k + j) + 2)).toNat : Nat) : Int) % ((2 ^ (xcv_4 (4 * (xcv_3 k + j) + 3)).toNat : Nat) : Int)
noncomputable def vA (f : Int → Int) (N C x j : Int) : Int := if (0 ≤ x ∧ x < C) ∧ 0 ≤ j ∧ j < xcv_2 (hX f N x) then vof f (hZ f N x) (hX f N x) (hY f N x) j else -1
noncomputable def kA (f : Int → Int) (N C x : Int) : Int := if 0 ≤ x ∧ x < C then hX f N x else -1
noncomputable def pA (f : Int → Int) (N C x : Int) : Int := if 0 ≤ x ∧ x < C then hY f N x else -1
theorem vA_in {f : Int → Int} {N C x j k a v : Int} (h0 : 0 ≤ x ∧ x < C) (hk : hX f N x = k) (ha : hY f N x = a) (hj : 0 ≤ j ∧ j < xcv_2 k) (hv : v = vof f (hZ f N x) k a j) : v = vA f N C x j := by
  unfold vA
  rw [hk, ha, if_pos ⟨h0, hj⟩, hv]
theorem vA_out {f : Int → Int} {N C x j : Int} (h : (x < 0 ∨ C ≤ x) ∨ j < 0 ∨ xcv_2 (hX f N x) ≤ j) : -1 = vA f N C x j := by
  unfold vA
  rw [if_neg (by omega)]
/-- what the tables of the fields say: 11 kinds, their fields -/
theorem vtab0 : ∀ k : Nat, k < 11 → ∀ j : Nat, j < 11 → xcv_2 (k : Int) ≤ (j : Int) ∨ ((0 ≤ xcv_4 (4 * (xcv_3 (k : Int) + (j : Int))) ∧ xcv_4 (4 * (xcv_3 (k : Int) + (j : Int))) + xcv_4 (4 * (xcv_3 (k : Int) + (j : Int)) + 1) ≤ lst (k : Int)) ∧ (0 ≤ xcv_4 (4 * (xcv_3 (k : Int) + (j : Int)) + 1) ∧ xcv_4 (4 * (xcv_3 (k : Int) + (j : Int)) + 1) ≤ 8) ∧ (xcv_4 (4 * (xcv_3 (k : Int) + (j : Int)) + 3) = 64 ∨ (0 ≤ xcv_4 (4 * (xcv_3 (k : Int) + (j : Int)) + 3) ∧ xcv_4 (4 * (xcv_3 (k : Int) + (j : Int)) + 3) ≤ 32 ∧ xcv_4 (4 * (xcv_3 (k : Int) + (j : Int)) + 1) ≤ 4)) ∧ (0 ≤ xcv_4 (4 * (xcv_3 (k : Int) + (j : Int)) + 2) ∧ xcv_4 (4 * (xcv_3 (k : Int) + (j : Int)) + 2) < 64)) := by decide +kernel
end
