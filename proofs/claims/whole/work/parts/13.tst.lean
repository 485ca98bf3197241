def xh_e : ix_H := (0, 0, fun _ => .inr (0, []))
def xt0 : ix_T := xT (fun _ => none)
theorem tst_a : (match iy_run xt0 12 3 0 [.ref 0] xh_e with | some _ => false | none => true) = true := by decide +kernel
theorem tst_1 : (match iy_iter xt0 (iy_run xt0 14 8) xm_law 1 (0, [(0, .ref 1000000)], [], xh_e) with | some (.inl (pc, _, _, (n, k, _))) => Nat.beq pc 4 && Nat.beq n 1 && Nat.beq k 15 | _ => false) = true := by decide +kernel
def xh_p : ix_H := (1, 3, fun _ => .inr (8, [.null, .int 0, .long 0]))
theorem tst_2 : (match iy_run xt0 14 8 64 [.ref 0] xh_p with | some (none, (n, k, _)) => Nat.beq n 2 && Nat.beq k 403 | _ => false) = true := by decide +kernel
def xh_f : ix_H := (1, 16, fun _ => .inr (1, [.int 0, .int 0, .int 0, .null, .null, .int 0, .int 0, .null, .null, .null, .null, .null, .int 0, .int 0, .long 0, .int 0]))
theorem tst_3 : (match iy_run xt0 14 8 47 [.ref 0] xh_f with | some (none, (n, k, _)) => Nat.beq n 8 && Nat.beq k 30 | _ => false) = true := by decide +kernel
theorem tst_5 : (match iy_iter xt0 (iy_run xt0 14 8) xm_law 3 (0, [(0, .ref 1000000)], [], xh_e) with | some (.inl (pc, _, _, (n, k, _))) => Nat.beq pc 16 && Nat.beq n 688 && Nat.beq k 70427 | _ => false) = true := by decide +kernel
def xs_A (L : Nat) (xs : Nat → Int32) : Nat → Option (Nat × (Nat → Int32)) := fun k => bif Nat.beq k 0 then some (L, xs) else none
def xs_l (l : List Int32) : Nat → Int32 := fun j => l.getD j 0
def xs_run (l : List Int32) : Bool := match iy_iter (xT (xs_A l.length (xs_l l))) (iy_run (xT (xs_A l.length (xs_l l))) 14 8) xm_law 14 (0, [(0, .ref 1000000)], [], xh_e) with | some (.inr (some (.int v), _)) => decide (v = 1) | _ => false
theorem tst_6 : xs_run [0, 1, 2, 3, 4, 5] = true := by decide +kernel
