section
theorem xrr0_z : (List.range 688).all (fun a => Nat.blt a 599 || (decide (((xrr0 a).getD (-9223372036854775808, 9223372036854775807)).1 ≤ 0 ∧ (0 : Int) ≤ ((xrr0 a).getD (-9223372036854775808, 9223372036854775807)).2) && (m0zl.any (fun b => Nat.beq a b) || (List.range (m0n (xh0 a))).all (fun j => decide (((xrr0 a).getD (-9223372036854775808, 9223372036854775807)).1 ≤ jp0 (xh0 a) j ∧ jp0 (xh0 a) j ≤ ((xrr0 a).getD (-9223372036854775808, 9223372036854775807)).2))))) = true := by decide +kernel
theorem jp0_out {c : ix_C} {j : Nat} (h : m0n c ≤ j) : jp0 c j = 0 := by
  unfold jp0
  split
  · rename_i n f
    rw [jnb (show n ≤ _ from h)]
    rfl
  · rename_i n f
    rw [jnb (show n ≤ _ from h)]
    rfl
  · rename_i vs
    have : vs[j]? = none := List.getElem?_eq_none h
    rw [this]
  · rfl
theorem M0_in {a : Nat} (h : a < 688) (j : Nat) : M0 a (Int.ofNat j) = jp0 (xh0 a) j := by
  show (bif Nat.blt a 688 then jp0 (xh0 a) j else 0) = _
  rw [Nat.blt_eq.mpr h]
  rfl
theorem M0_out {a : Nat} (h : 688 ≤ a) (i : Int) : M0 a i = 0 := by
  cases i with
  | ofNat j =>
    show (bif Nat.blt a 688 then jp0 (xh0 a) j else 0) = 0
    rw [jnb h]
    rfl
  | negSucc n => rfl
theorem m0n_598 : m0n (xh0 598) ≤ 150 := by decide +kernel
theorem xri_598 (i : Int) : xri 598 i = (xrf0 i.toNat).getD (-9223372036854775808, 9223372036854775807) := rfl
theorem xri_rw0 {a : Nat} (h : 599 ≤ a) (i : Int) : xri a i = (xrr0 a).getD (-9223372036854775808, 9223372036854775807) := by
  unfold xri
  rw [jne0 (show 598 < a by omega)]
  rfl
end
