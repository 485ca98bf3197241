section
noncomputable def pu6 (M : jm) (k : Int) : Nat → Int → Int
  | 0, _ => 0
  | n + 1, i => if M 627 i ≠ 0 ∧ M 640 i = k then 1 else pu6 M k n (i + 1)
theorem pu6_s {M : jm} {k i : Int} (h : i < 24) : pu6 M k (24 - i).toNat i = if M 627 i ≠ 0 ∧ M 640 i = k then 1 else pu6 M k (24 - (i + 1)).toNat (i + 1) := by
  obtain ⟨n, hn⟩ : ∃ n : Nat, i = 23 - n := ⟨(23 - i).toNat, by omega⟩
  subst hn
  rw [show (24 - (23 - (n : Int))).toNat = n + 1 by omega, show (24 - (23 - (n : Int) + 1)).toNat = n by omega]
  rfl
noncomputable def tk6 (M : jm) (a o : Int) : Nat → Int → Int
  | 0, _ => 0
  | n + 1, i => if M 627 i ≠ 0 ∧ M 640 i ≠ -1 ∧ M 641 i = a ∧ M 642 i = o then 1 else tk6 M a o n (i + 1)
theorem tk6_s {M : jm} {a o i : Int} (h : i < 24) : tk6 M a o (24 - i).toNat i = if M 627 i ≠ 0 ∧ M 640 i ≠ -1 ∧ M 641 i = a ∧ M 642 i = o then 1 else tk6 M a o (24 - (i + 1)).toNat (i + 1) := by
  obtain ⟨n, hn⟩ : ∃ n : Nat, i = 23 - n := ⟨(23 - i).toNat, by omega⟩
  subst hn
  rw [show (24 - (23 - (n : Int))).toNat = n + 1 by omega, show (24 - (23 - (n : Int) + 1)).toNat = n by omega]
  rfl
end
