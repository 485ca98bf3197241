section
section XM0
variable {p : Program} {l : Launch} {e : Env} {s : State} {m : MethodId} {below : List Frame} {meth : Method} {c : Code} {b L : Nat} {xs : Nat → Int32}
theorem xbehind2 (C0 : lw_At p s m meth c b L xs) (k : ∀ (D : va_G) (aC : Nat → ClassId) (tys : List (ClassId × FieldType)) (cst : Nat → Nat) (fm : Nat), cst 0 = b → (∀ A : Nat → Option (Nat × (Nat → Int32)), (A = (fun _ => none) ∨ A = xs_A L xs fm) → ix_St (xT A) D xcl aC tys xon xTs xNs (ix_ad s.heap.size cst) s.heap.size s) → ix_End p l e room_1 s m #[Value.ref b] below meth c (lw_Z below #[Value.ref b] s) D xcl aC (ix_ad s.heap.size cst) s.heap.size 0 0 xm_law (.inl (16, xls0, [], jH M0))) : W p l e room_1 s m #[Value.ref b] below meth c s.heap [] 0 0 (lw_Z below #[Value.ref b] s) (entryFrame m ([Value.ref b] : List Value).toArray 4) := by
  refine xbehind C0 (fun D aC tys cst fm hc hSt => ?_)
  intro H1 locs1 arr1 hW hl
  exact k D aC tys cst fm hc hSt H1 locs1 arr1 (xcongr M0_ok hW) hl
end XM0
/-! ===== the reference's invariants hold there ===== -/
theorem jnb {j c : Nat} (h : c ≤ j) : Nat.blt j c = false := by
  cases hb : Nat.blt j c with
  | false => rfl
  | true => have := Nat.blt_eq.mp hb; omega
theorem jne0 {j c : Nat} (h : c < j) : Nat.beq j c = false := by
  cases hb : Nat.beq j c with
  | false => rfl
  | true => have := Nat.eq_of_beq_eq_true hb; omega
theorem xrf0_out {j : Nat} (h : 150 ≤ j) : xrf0 j = none := by
  unfold xrf0
  rw [jnb (show 83 ≤ j by omega), jnb (show 111 ≤ j by omega), jnb (show 138 ≤ j by omega)]
  simp only [cond_false]
  unfold xrf0_5
  rw [jnb (show 142 ≤ j by omega), jnb (show 144 ≤ j by omega), jnb (show 145 ≤ j by omega), jnb (show 147 ≤ j by omega), jne0 (show 147 < j by omega)]
  simp only [cond_false]
theorem xrr0_out {a : Nat} (h : 688 ≤ a) : xrr0 a = none := by
  unfold xrr0
  rw [jnb (show 639 ≤ a by omega), jnb (show 659 ≤ a by omega), jnb (show 669 ≤ a by omega), jnb (show 679 ≤ a by omega)]
  simp only [cond_false]
  unfold xrr0_8
  rw [jnb (show 683 ≤ a by omega), jnb (show 685 ≤ a by omega), jnb (show 686 ≤ a by omega), jnb (show 687 ≤ a by omega), jne0 (show 687 < a by omega)]
  simp only [cond_false]
theorem xrf0_z : (List.range 150).all (fun j => decide (((xrf0 j).getD (-9223372036854775808, 9223372036854775807)).1 ≤ M0 598 (Int.ofNat j) ∧ M0 598 (Int.ofNat j) ≤ ((xrf0 j).getD (-9223372036854775808, 9223372036854775807)).2)) = true := by decide +kernel
noncomputable def m0n (c : ix_C) : Nat := match c with
  | .inl (_, n, _) => n
  | .inr (_, vs) => vs.length
noncomputable def m0zl : List Nat := [599, 601, 602, 603, 604, 605, 606, 607, 608, 609, 610, 611, 612, 613, 614, 615, 616, 617, 618, 619, 620, 621, 622, 623, 624, 625, 626, 627, 628, 629, 630, 631, 632, 633, 634, 635, 636, 637, 638, 639, 640, 641, 642, 643, 644, 645, 646, 651, 652, 653, 654, 655, 656, 657, 658, 659, 660, 661, 662, 663, 664, 665, 666, 667, 668, 669, 670, 671, 672, 673, 675, 676, 677, 678, 679, 680, 681, 682, 683, 684, 685, 686, 687]
theorem m0zI {a t n : Nat} (e : xh0 a = .inl (t, n, .inl (fun _ => 0))) (j : Nat) : jp0 (xh0 a) j = 0 := by
  rw [e]
  show (bif Nat.blt j n then (0 : Int32).toInt else 0) = 0
  cases Nat.blt j n <;> rfl
end
