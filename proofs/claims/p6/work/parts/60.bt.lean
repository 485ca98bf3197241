/-! ===== bytes of numbers ===== -/
theorem j_and_m (k : Nat) (hk : k < 32) (x : Int) : j_and x ((2 ^ k - 1 : Nat) : Int) = x % (2 ^ k : Nat) := by
  have hp : 0 < 2 ^ k := Nat.two_pow_pos k
  have hp2 : 2 ^ k ≤ 2 ^ 31 := Nat.pow_le_pow_right (by decide) (by omega)
  have hp3 : 2 ^ 31 = 2147483648 := rfl
  unfold j_and
  have hN : (Int32.ofInt x &&& Int32.ofInt ((2 ^ k - 1 : Nat) : Int)).toBitVec.toNat = (x % 4294967296).toNat % 2 ^ k := by
    rw [Int32.toBitVec_and, BitVec.toNat_and, jb_tn, jb_tn]
    rw [show (((2 ^ k - 1 : Nat) : Int) % 4294967296).toNat = 2 ^ k - 1 by omega]
    exact Nat.and_two_pow_sub_one_eq_mod _ k
  have hl : (x % 4294967296).toNat % 2 ^ k < 2 ^ k := Nat.mod_lt _ hp
  have e2 : x % (2 ^ k : Nat) = (((x % 4294967296).toNat % 2 ^ k : Nat) : Int) := by
    have h1 : (((x % 4294967296).toNat % 2 ^ k : Nat) : Int) = (x % 4294967296) % (2 ^ k : Nat) := by
      rw [Int.natCast_emod, Int.toNat_of_nonneg (Int.emod_nonneg _ (by decide))]
    rw [h1]
    refine (Int.emod_emod_of_dvd x ?_).symm
    show ((2 ^ k : Nat) : Int) ∣ ((2 ^ 32 : Nat) : Int)
    exact Int.natCast_dvd_natCast.mpr (Nat.pow_dvd_pow 2 (by omega))
  rw [e2, jb_ti, hN]
  split <;> omega
theorem j_and_255 (x : Int) : j_and x 255 = x % 256 := j_and_m 8 (by decide) x
theorem j_w_mod (y : Int) : j_w y % 256 = y % 256 := by
  unfold j_w
  rw [jb_ti, jb_tn]
  split <;> omega
theorem jbl_su : ∀ n, n < 64 → (((Int32.ofInt (n : Nat)).toInt64.toUInt64 &&& Int64.toUInt64 63).toBitVec % 64).toNat = n := by decide +kernel
theorem jl_ushr_tn (x : Int) (k : Nat) (hk : k < 64) : jl_ushr x (k : Nat) % 256 = (((x % 18446744073709551616).toNat / 2 ^ k : Nat) : Int) % 256 := by
  unfold jl_ushr
  have hN : ((Int64.ofInt x).toUInt64 >>> ((Int32.ofInt (k : Nat)).toInt64.toUInt64 &&& Int64.toUInt64 63)).toInt64.toBitVec.toNat = (x % 18446744073709551616).toNat / 2 ^ k := by
    show ((Int64.ofInt x).toUInt64 >>> ((Int32.ofInt (k : Nat)).toInt64.toUInt64 &&& Int64.toUInt64 63)).toBitVec.toNat = _
    rw [UInt64.toBitVec_shiftRight]
    show ((Int64.ofInt x).toBitVec >>> ((((Int32.ofInt (k : Nat)).toInt64.toUInt64 &&& Int64.toUInt64 63).toBitVec % 64))).toNat = _
    rw [BitVec.ushiftRight_eq', BitVec.toNat_ushiftRight, jbl_su k hk, jbl_tn, Nat.shiftRight_eq_div_pow]
  rw [jbl_ti, hN]
  split <;> omega
/-- byte i of a number, the lowest first -/
def bt (n i : Int) : Int := if i = 0 then n % 256 else if i = 1 then n / 256 % 256 else if i = 2 then n / 65536 % 256 else if i = 3 then n / 16777216 % 256 else if i = 4 then n / 4294967296 % 256 else if i = 5 then n / 1099511627776 % 256 else if i = 6 then n / 281474976710656 % 256 else n / 72057594037927936 % 256
theorem bt_r (n i : Int) : 0 ≤ bt n i ∧ bt n i ≤ 255 := by
  unfold bt
  repeat' split
  all_goals omega
theorem bt_cl {n i : Int} (h : 0 ≤ i ∧ i ≤ 7) : j_and (j_w (jl_ushr n (8 * i))) 255 = bt n i := by
  rw [j_and_255, j_w_mod]
  unfold bt
  rcases (show i = 0 ∨ i = 1 ∨ i = 2 ∨ i = 3 ∨ i = 4 ∨ i = 5 ∨ i = 6 ∨ i = 7 by omega) with rfl | rfl | rfl | rfl | rfl | rfl | rfl | rfl
  · rw [show (8 * (0 : Int)) = ((0 : Nat) : Int) from rfl, jl_ushr_tn n 0 (by decide)]; simp only [if_true]; omega
  · rw [show (8 * (1 : Int)) = ((8 : Nat) : Int) from rfl, jl_ushr_tn n 8 (by decide)]; simp; omega
  · rw [show (8 * (2 : Int)) = ((16 : Nat) : Int) from rfl, jl_ushr_tn n 16 (by decide)]; simp; omega
  · rw [show (8 * (3 : Int)) = ((24 : Nat) : Int) from rfl, jl_ushr_tn n 24 (by decide)]; simp; omega
  · rw [show (8 * (4 : Int)) = ((32 : Nat) : Int) from rfl, jl_ushr_tn n 32 (by decide)]; simp; omega
  · rw [show (8 * (5 : Int)) = ((40 : Nat) : Int) from rfl, jl_ushr_tn n 40 (by decide)]; simp; omega
  · rw [show (8 * (6 : Int)) = ((48 : Nat) : Int) from rfl, jl_ushr_tn n 48 (by decide)]; simp; omega
  · rw [show (8 * (7 : Int)) = ((56 : Nat) : Int) from rfl, jl_ushr_tn n 56 (by decide)]; simp; omega
theorem j_ushr_tn (x : Int) (k : Nat) (hk : k < 32) : j_ushr x (k : Nat) % 256 = (((x % 4294967296).toNat / 2 ^ k : Nat) : Int) % 256 := by
  unfold j_ushr
  have hN : ((Int32.ofInt x).toUInt32 >>> ((Int32.ofInt (k : Nat)).toUInt32 &&& Int32.toUInt32 31)).toInt32.toBitVec.toNat = (x % 4294967296).toNat / 2 ^ k := by
    show ((Int32.ofInt x).toUInt32 >>> ((Int32.ofInt (k : Nat)).toUInt32 &&& Int32.toUInt32 31)).toBitVec.toNat = _
    rw [UInt32.toBitVec_shiftRight]
    show ((Int32.ofInt x).toBitVec >>> ((((Int32.ofInt (k : Nat)).toUInt32 &&& Int32.toUInt32 31).toBitVec % 32))).toNat = _
    rw [BitVec.ushiftRight_eq', BitVec.toNat_ushiftRight, jb_su k hk, jb_tn, Nat.shiftRight_eq_div_pow]
  rw [jb_ti, hN]
  split <;> omega
theorem bt_rf {n k : Int} (h : k = 0 ∨ k = 8 ∨ k = 16 ∨ k = 24) : j_and (j_ushr n k) 255 = bt n (k / 8) := by
  rw [j_and_255]
  unfold bt
  rcases h with rfl | rfl | rfl | rfl
  · rw [show (0 : Int) = ((0 : Nat) : Int) from rfl, j_ushr_tn n 0 (by decide)]; simp; omega
  · rw [show (8 : Int) = ((8 : Nat) : Int) from rfl, j_ushr_tn n 8 (by decide)]; simp; omega
  · rw [show (16 : Int) = ((16 : Nat) : Int) from rfl, j_ushr_tn n 16 (by decide)]; simp; omega
  · rw [show (24 : Int) = ((24 : Nat) : Int) from rfl, j_ushr_tn n 24 (by decide)]; simp; omega
