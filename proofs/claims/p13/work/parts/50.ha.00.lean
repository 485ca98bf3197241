section
/-! ===== the class's constructor ===== -/
noncomputable def xls1 : ix_L := [(1, .ref 0), (0, .ref 1000000)]
noncomputable def xctA : Option (ix_S ⊕ (Option Value × ix_H)) := iy_iter xt0 (iy_run xt0 14 8) xm_law 2 (0, [(0, .ref 1000000)], [], xh_e)
noncomputable def xctA_chk : Bool := match xctA with
  | some (.inl (pc, ls, st, (n, k, h))) => Nat.beq pc 8 && (decide (ls = xls1) && (decide (st = []) && (Nat.beq n 598 && (Nat.beq k 29846 && (List.range n).all (fun a => xcq (h a) (xh0 a))))))
  | _ => false
theorem xctA_ok : xctA_chk = true := by decide +kernel
end
