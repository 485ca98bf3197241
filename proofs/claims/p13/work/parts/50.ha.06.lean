section
theorem M0_ok : (List.range 688).all (fun a => xceq (xh0 a) (jh M0 a)) = true := List.all_eq_true.mpr (fun a ha => by
  have h : (m0r a || xceq (xh0 a) (jh M0 a)) = true := List.all_eq_true.mp m0r_all a ha
  rw [Bool.or_eq_true] at h
  rcases h with q | q
  · exact m0r_ok (List.mem_range.mp ha) q
  · exact q)
section XM0
variable {p : Program} {l : Launch} {e : Env} {s : State} {m : MethodId} {below : List Frame} {meth : Method} {c : Code} {b L : Nat} {xs : Nat → Int32}
end XM0
end
