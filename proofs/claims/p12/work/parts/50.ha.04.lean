section
theorem m0zL {a t n : Nat} (e : xh0 a = .inl (t, n, .inr (.inl (fun _ => 0)))) (j : Nat) : jp0 (xh0 a) j = 0 := by
  rw [e]
  show (bif Nat.blt j n then (0 : Int64).toInt else 0) = 0
  cases Nat.blt j n <;> rfl
end
