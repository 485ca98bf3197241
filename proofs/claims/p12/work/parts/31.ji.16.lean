section
noncomputable def xrr0_7 (a : Nat) : Option (Int × Int) := bif Nat.blt a 674 then (bif Nat.blt a 671 then (bif Nat.blt a 670 then (bif Nat.beq a 669 then some ((0, 2200)) else none) else (bif Nat.beq a 670 then some ((-9223372036854775808, 9223372036854775807)) else none)) else (bif Nat.blt a 672 then (bif Nat.beq a 671 then some ((-9223372036854775808, 9223372036854775807)) else none) else (bif Nat.blt a 673 then (bif Nat.beq a 672 then some ((0, 16)) else none) else (bif Nat.beq a 673 then some ((-9223372036854775808, 9223372036854775807)) else none)))) else (bif Nat.blt a 676 then (bif Nat.blt a 675 then (bif Nat.beq a 674 then some ((-1, 6)) else none) else (bif Nat.beq a 675 then some ((0, 40)) else none)) else (bif Nat.blt a 677 then (bif Nat.beq a 676 then some ((-9223372036854775808, 9223372036854775807)) else none) else (bif Nat.blt a 678 then (bif Nat.beq a 677 then some ((-1, 11)) else none) else (bif Nat.beq a 678 then some ((-9223372036854775808, 9223372036854775807)) else none))))
noncomputable def xrr0_8 (a : Nat) : Option (Int × Int) := bif Nat.blt a 683 then (bif Nat.blt a 681 then (bif Nat.blt a 680 then (bif Nat.beq a 679 then some ((0, 15)) else none) else (bif Nat.beq a 680 then some ((0, 1)) else none)) else (bif Nat.blt a 682 then (bif Nat.beq a 681 then some ((0, 2200)) else none) else (bif Nat.beq a 682 then some ((0, 1)) else none))) else (bif Nat.blt a 685 then (bif Nat.blt a 684 then (bif Nat.beq a 683 then some ((0, 2)) else none) else (bif Nat.beq a 684 then some ((0, 8)) else none)) else (bif Nat.blt a 686 then (bif Nat.beq a 685 then some ((-9223372036854775808, 9223372036854775807)) else none) else (bif Nat.blt a 687 then (bif Nat.beq a 686 then some ((-9223372036854775808, 9223372036854775807)) else none) else (bif Nat.beq a 687 then some ((0, 1600)) else none))))
noncomputable def xrr0 (a : Nat) : Option (Int × Int) := bif Nat.blt a 639 then (bif Nat.blt a 619 then (bif Nat.blt a 609 then (xrr0_0 a) else (xrr0_1 a)) else (bif Nat.blt a 629 then (xrr0_2 a) else (xrr0_3 a))) else (bif Nat.blt a 659 then (bif Nat.blt a 649 then (xrr0_4 a) else (xrr0_5 a)) else (bif Nat.blt a 669 then (xrr0_6 a) else (bif Nat.blt a 679 then (xrr0_7 a) else (xrr0_8 a))))
noncomputable def xri (a : Nat) (i : Int) : Int × Int := bif Nat.beq a 598 then (xrf0 i.toNat).getD (-9223372036854775808, 9223372036854775807) else (xrr0 a).getD (-9223372036854775808, 9223372036854775807)
/-- every cell of the reference is within its interval -/
noncomputable def RI (M : jm) : Prop := ∀ (a : Nat) (i : Int), 598 ≤ a → (xri a i).1 ≤ M a i ∧ M a i ≤ (xri a i).2
theorem RI.u {M : jm} (h : RI M) {a : Nat} {i v : Int} (hv : (xri a i).1 ≤ v ∧ v ≤ (xri a i).2) : RI (ju M a i v) := by
  intro b k hb
  by_cases hq : b = a ∧ k = i
  · obtain ⟨rfl, rfl⟩ := hq
    rw [ju_same]
    exact hv
  · rw [ju_ne M v hq]
    exact h b k hb
/-- a row's interval doesn't ask for the place -/
theorem xri_row {a : Nat} {lo hi : Int} (ha : Nat.beq a 598 = false) (h : (xrr0 a).getD (-9223372036854775808, 9223372036854775807) = (lo, hi)) (i : Int) : xri a i = (lo, hi) := by
  unfold xri
  rw [ha]
  exact h
theorem j_zn {x : Int} (h : 0 ≤ x ∧ x ≤ 1) : vp_nar .boolean (Int32.ofInt x) = Int32.ofInt x := by
  rcases (show x = 0 ∨ x = 1 by omega) with rfl | rfl <;> decide
end
section
/-! ===== the reference: its headers lie within the packet ===== -/
noncomputable def lst (k : Int) : Int := if k = 2 ∨ k = 8 then 20 else if k = 3 then 24 else if k = 0 ∨ k = 1 ∨ k = 10 then 4 else if k = 11 then 0 else 8
theorem lst_le (k : Int) : 0 ≤ lst k ∧ lst k ≤ 24 := by unfold lst; split <;> (try split) <;> (try split) <;> (try split) <;> omega
theorem lst_k (k : Int) : (k = 2 → lst k = 20) ∧ (k = 8 → lst k = 20) ∧ (k = 3 → lst k = 24) ∧ (k = 0 → lst k = 4) ∧ (k = 1 → lst k = 4) ∧ (k = 10 → lst k = 4) ∧ (k = 11 → lst k = 0) ∧ (4 ≤ k ∧ k ≤ 7 ∨ k = 9 → lst k = 8) := by
  refine ⟨?_, ?_, ?_, ?_, ?_, ?_, ?_, ?_⟩ <;> intro h <;> unfold lst <;> (repeat' split) <;> omega
end
