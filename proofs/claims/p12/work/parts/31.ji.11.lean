section
theorem jb_ti (z : Int32) : z.toInt = if 2 * z.toBitVec.toNat < 4294967296 then (z.toBitVec.toNat : Int) else (z.toBitVec.toNat : Int) - 4294967296 := BitVec.toInt_eq_toNat_cond _
theorem jbl_ti (z : Int64) : z.toInt = if 2 * z.toBitVec.toNat < 18446744073709551616 then (z.toBitVec.toNat : Int) else (z.toBitVec.toNat : Int) - 18446744073709551616 := BitVec.toInt_eq_toNat_cond _
theorem jb_any (z : Int32) : -2147483648 ≤ z.toInt ∧ z.toInt ≤ 2147483647 := by
  have h := z.toBitVec.isLt
  rw [jb_ti]
  split <;> omega
theorem jbl_any (z : Int64) : -9223372036854775808 ≤ z.toInt ∧ z.toInt ≤ 9223372036854775807 := by
  have h := z.toBitVec.isLt
  rw [jbl_ti]
  split <;> omega
theorem j_and_le {x m : Int} (hm : 0 ≤ m ∧ m ≤ 2147483647) : 0 ≤ j_and x m ∧ j_and x m ≤ m := by
  unfold j_and
  have hN : (Int32.ofInt x &&& Int32.ofInt m).toBitVec.toNat ≤ m.toNat := by
    rw [Int32.toBitVec_and, BitVec.toNat_and, jb_tn m, Int.emod_eq_of_lt (by omega) (by omega)]
    exact Nat.and_le_right
  rw [jb_ti]
  split <;> omega
theorem jl_and_le {x m : Int} (hm : 0 ≤ m ∧ m ≤ 9223372036854775807) : 0 ≤ jl_and x m ∧ jl_and x m ≤ m := by
  unfold jl_and
  have hN : (Int64.ofInt x &&& Int64.ofInt m).toBitVec.toNat ≤ m.toNat := by
    rw [Int64.toBitVec_and, BitVec.toNat_and, jbl_tn m, Int.emod_eq_of_lt (by omega) (by omega)]
    exact Nat.and_le_right
  rw [jbl_ti]
  split <;> omega
theorem j_or_lt {x y : Int} (k : Nat) (hk : k ≤ 31) (hx : 0 ≤ x ∧ x < (2 ^ k : Nat)) (hy : 0 ≤ y ∧ y < (2 ^ k : Nat)) : 0 ≤ j_or x y ∧ j_or x y < (2 ^ k : Nat) := by
  have hp : 2 ^ k ≤ 2 ^ 31 := Nat.pow_le_pow_right (by decide) hk
  have hp2 : 2 ^ 31 = 2147483648 := rfl
  unfold j_or
  have hN : (Int32.ofInt x ||| Int32.ofInt y).toBitVec.toNat < 2 ^ k := by
    rw [Int32.toBitVec_or, BitVec.toNat_or, jb_tn x, jb_tn y, Int.emod_eq_of_lt (by omega) (by omega), Int.emod_eq_of_lt (by omega) (by omega)]
    exact Nat.or_lt_two_pow (by omega) (by omega)
  rw [jb_ti]
  split <;> omega
theorem jb_sl : ∀ n, n < 32 → ((Int32.ofInt (n : Nat) &&& 31).toBitVec.smod 32).toNat = n := by decide +kernel
theorem jb_su : ∀ n, n < 32 → (((Int32.ofInt (n : Nat)).toUInt32 &&& Int32.toUInt32 31).toBitVec % 32).toNat = n := by decide +kernel
theorem jb_shl (x : Int) {k : Nat} (hk : k < 32) : (Int32.ofInt x <<< (Int32.ofInt (k : Nat) &&& 31)).toBitVec.toNat = ((x % 4294967296).toNat * 2 ^ k) % 4294967296 := by
  rw [Int32.toBitVec_shiftLeft]
  show ((Int32.ofInt x).toBitVec <<< ((Int32.ofInt (k : Nat) &&& 31).toBitVec.smod 32).toNat).toNat = _
  rw [jb_sl k hk, BitVec.toNat_shiftLeft, jb_tn, Nat.shiftLeft_eq]
theorem j_shl_ex {x : Int} (k : Nat) (hk : k < 32) (h0 : 0 ≤ x) (h1 : x * (2 ^ k : Nat) ≤ 2147483647) : j_shl x (k : Nat) = x * (2 ^ k : Nat) := by
  have hp : 0 < 2 ^ k := Nat.two_pow_pos k
  have hx : x ≤ 2147483647 := by
    have : x * 1 ≤ x * (2 ^ k : Nat) := Int.mul_le_mul_of_nonneg_left (by omega) h0
    omega
  unfold j_shl
  have hN := jb_shl x hk
  obtain ⟨n, rfl⟩ := Int.eq_ofNat_of_zero_le h0
  have e1 : ((n : Int) % 4294967296).toNat = n := by omega
  have e2 : ((n : Int) * (2 ^ k : Nat)) = ((n * 2 ^ k : Nat) : Int) := by simp
  rw [e2] at h1 ⊢
  rw [e1, Nat.mod_eq_of_lt (by omega)] at hN
  rw [jb_ti, hN]
  split <;> omega
theorem j_shr_ex {x : Int} (k : Nat) (hk : k < 32) (h0 : -2147483648 ≤ x) (h1 : x ≤ 2147483647) : j_shr x (k : Nat) = x / (2 ^ k : Nat) := by
  unfold j_shr
  show (Int32.ofInt x >>> (Int32.ofInt (k : Nat) &&& 31)).toBitVec.toInt = _
  rw [Int32.toBitVec_shiftRight]
  show ((Int32.ofInt x).toBitVec.sshiftRight ((Int32.ofInt (k : Nat) &&& 31).toBitVec.smod 32).toNat).toInt = _
  rw [jb_sl k hk, BitVec.toInt_sshiftRight, Int.shiftRight_eq_div_pow]
  have e : (Int32.ofInt x).toBitVec.toInt = x := Int32.toInt_ofInt_of_le (by omega) (by omega)
  rw [e]
section JW
variable {A : Nat → Option (Nat × (Nat → Int32))} {D : Nat} {m : ix_M} {pc : Nat} {ls ls' : ix_L} {st : List Value} {M : jm} {Q : Option Value → jm → Prop}
end JW
end
