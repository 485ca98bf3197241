section
/-- a row of numbers that has the shape of its cell -/
noncomputable def m0r (a : Nat) : Bool := match xh0 a with
  | .inl (t, n, .inl _) => (Nat.beq t 0 || Nat.beq t 2) && (Nat.beq (xsh a).1 t && Nat.beq (xsh a).2 n)
  | .inl (t, n, .inr (.inl _)) => Nat.beq t 1 && (Nat.beq (xsh a).1 t && Nat.beq (xsh a).2 n)
  | _ => false
theorem m0r_all : (List.range 688).all (fun a => m0r a || xceq (xh0 a) (jh M0 a)) = true := by decide +kernel
end
