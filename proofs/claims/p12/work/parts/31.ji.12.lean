section
section JW
variable {A : Nat → Option (Nat × (Nat → Int32))} {D : Nat} {m : ix_M} {pc : Nat} {ls ls' : ix_L} {st : List Value} {M : jm} {Q : Option Value → jm → Prop}
/-- another payload of the same value -/
theorem jr.iw {x : Int} (y : Int) (h : Int32.ofInt y = Int32.ofInt x) (k : jr A D m pc ls (.int (Int32.ofInt y) :: st) M Q) : jr A D m pc ls (.int (Int32.ofInt x) :: st) M Q := by
  rw [h] at k
  exact k
theorem jr.lw {x : Int} (y : Int) (h : Int64.ofInt y = Int64.ofInt x) (k : jr A D m pc ls (.long (Int64.ofInt y) :: st) M Q) : jr A D m pc ls (.long (Int64.ofInt x) :: st) M Q := by
  rw [h] at k
  exact k
theorem j_w_eq (x : Int) : Int32.ofInt (j_w x) = Int32.ofInt x := Int32.ofInt_toInt _
theorem jl_w_eq (x : Int) : Int64.ofInt (jl_w x) = Int64.ofInt x := Int64.ofInt_toInt _
end JW
theorem jbl_sl : ∀ n, n < 64 → (((Int32.ofInt (n : Nat)).toInt64 &&& 63).toBitVec.smod 64).toNat = n := by decide +kernel
theorem jl_shr_ex {x : Int} (k : Nat) (hk : k < 64) (h0 : -9223372036854775808 ≤ x) (h1 : x ≤ 9223372036854775807) : jl_shr x (k : Nat) = x / (2 ^ k : Nat) := by
  unfold jl_shr
  show (Int64.ofInt x >>> ((Int32.ofInt (k : Nat)).toInt64 &&& 63)).toBitVec.toInt = _
  rw [Int64.toBitVec_shiftRight]
  show ((Int64.ofInt x).toBitVec.sshiftRight (((Int32.ofInt (k : Nat)).toInt64 &&& 63).toBitVec.smod 64).toNat).toInt = _
  rw [jbl_sl k hk, BitVec.toInt_sshiftRight, Int.shiftRight_eq_div_pow]
  have e : (Int64.ofInt x).toBitVec.toInt = x := Int64.toInt_ofInt_of_le (by omega) (by omega)
  rw [e]
theorem jl_and_mask {x : Int} (k : Nat) (hk : k < 63) (h0 : 0 ≤ x) (h1 : x ≤ 9223372036854775807) : jl_and x ((2 ^ k - 1 : Nat) : Int) = x % (2 ^ k : Nat) := by
  have hp : 0 < 2 ^ k := Nat.two_pow_pos k
  have hp2 : 2 ^ k ≤ 2 ^ 62 := Nat.pow_le_pow_right (by decide) (by omega)
  have hp3 : 2 ^ 62 = 4611686018427387904 := rfl
  obtain ⟨n, rfl⟩ := Int.eq_ofNat_of_zero_le h0
  unfold jl_and
  have hN : (Int64.ofInt (n : Int) &&& Int64.ofInt ((2 ^ k - 1 : Nat) : Int)).toBitVec.toNat = n % 2 ^ k := by
    rw [Int64.toBitVec_and, BitVec.toNat_and, jbl_tn, jbl_tn]
    rw [show ((n : Int) % 18446744073709551616).toNat = n by omega, show (((2 ^ k - 1 : Nat) : Int) % 18446744073709551616).toNat = 2 ^ k - 1 by omega]
    exact Nat.and_two_pow_sub_one_eq_mod n k
  have hl : n % 2 ^ k < 2 ^ k := Nat.mod_lt _ hp
  have e2 : ((n : Int) % (2 ^ k : Nat)) = ((n % 2 ^ k : Nat) : Int) := by simp
  rw [e2, jbl_ti, hN]
  split <;> omega
end
section
/-! ===== the reference: what its cells may hold ===== -/
noncomputable def xrf0_0 (j : Nat) : Option (Int × Int) := bif Nat.blt j 12 then (bif Nat.blt j 6 then (bif Nat.blt j 2 then (bif Nat.beq j 1 then some ((0, 1600)) else none) else (bif Nat.beq j 2 then some ((0, 2000000)) else none)) else (bif Nat.blt j 10 then (bif Nat.beq j 6 then some ((0, 12)) else none) else (bif Nat.blt j 11 then (bif Nat.beq j 10 then some ((0, 6)) else none) else (bif Nat.beq j 11 then some ((-1, 400)) else none)))) else (bif Nat.blt j 14 then (bif Nat.blt j 13 then (bif Nat.beq j 12 then some ((-1, 11)) else none) else (bif Nat.beq j 13 then some ((-1, 6)) else none)) else (bif Nat.blt j 15 then (bif Nat.beq j 14 then some ((-1, 12)) else none) else (bif Nat.blt j 16 then (bif Nat.beq j 15 then some ((-1, 400)) else none) else (bif Nat.beq j 16 then some ((-1, 11)) else none))))
end
