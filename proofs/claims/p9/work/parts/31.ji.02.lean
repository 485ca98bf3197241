section
noncomputable def xrf0_2 (j : Nat) : Option (Int × Int) := bif Nat.blt j 78 then (bif Nat.blt j 75 then (bif Nat.blt j 74 then (bif Nat.beq j 73 then some ((0, 1600)) else none) else (bif Nat.beq j 74 then some ((0, 4)) else none)) else (bif Nat.blt j 76 then (bif Nat.beq j 75 then some ((0, 1600)) else none) else (bif Nat.blt j 77 then (bif Nat.beq j 76 then some ((-1, 68)) else none) else (bif Nat.beq j 77 then some ((-9223372036854775808, 9223372036854775807)) else none)))) else (bif Nat.blt j 80 then (bif Nat.blt j 79 then (bif Nat.beq j 78 then some ((-9223372036854775808, 9223372036854775807)) else none) else (bif Nat.beq j 79 then some ((0, 255)) else none)) else (bif Nat.blt j 81 then (bif Nat.beq j 80 then some ((0, 7)) else none) else (bif Nat.blt j 82 then (bif Nat.beq j 81 then some ((-1, 1600)) else none) else (bif Nat.beq j 82 then some ((0, 16)) else none))))
noncomputable def xrf0_3 (j : Nat) : Option (Int × Int) := bif Nat.blt j 100 then (bif Nat.blt j 89 then (bif Nat.blt j 88 then (bif Nat.beq j 83 then some ((0, 301)) else none) else (bif Nat.beq j 88 then some ((0, 16)) else none)) else (bif Nat.blt j 90 then (bif Nat.beq j 89 then some ((0, 301)) else none) else (bif Nat.blt j 96 then (bif Nat.beq j 90 then some ((0, 2200)) else none) else (bif Nat.beq j 96 then some ((0, 300)) else none)))) else (bif Nat.blt j 102 then (bif Nat.blt j 101 then (bif Nat.beq j 100 then some ((0, 13)) else none) else (bif Nat.beq j 101 then some ((0, 1)) else none)) else (bif Nat.blt j 107 then (bif Nat.beq j 102 then some ((0, 400)) else none) else (bif Nat.blt j 110 then (bif Nat.beq j 107 then some ((0, 16)) else none) else (bif Nat.beq j 110 then some ((0, 10000)) else none))))
noncomputable def xrf0_4 (j : Nat) : Option (Int × Int) := bif Nat.blt j 133 then (bif Nat.blt j 122 then (bif Nat.blt j 112 then (bif Nat.beq j 111 then some ((0, 2000)) else none) else (bif Nat.beq j 112 then some ((0, 2147483647)) else none)) else (bif Nat.blt j 131 then (bif Nat.beq j 122 then some ((0, 9)) else none) else (bif Nat.blt j 132 then (bif Nat.beq j 131 then some ((0, 400)) else none) else (bif Nat.beq j 132 then some ((0, 2200)) else none)))) else (bif Nat.blt j 135 then (bif Nat.blt j 134 then (bif Nat.beq j 133 then some ((0, 23)) else none) else (bif Nat.beq j 134 then some ((0, 8)) else none)) else (bif Nat.blt j 136 then (bif Nat.beq j 135 then some ((0, 8)) else none) else (bif Nat.blt j 137 then (bif Nat.beq j 136 then some ((0, 1)) else none) else (bif Nat.beq j 137 then some ((0, 2)) else none))))
noncomputable def xrf0_5 (j : Nat) : Option (Int × Int) := bif Nat.blt j 142 then (bif Nat.blt j 140 then (bif Nat.blt j 139 then (bif Nat.beq j 138 then some ((0, 8)) else none) else (bif Nat.beq j 139 then some ((-9223372036854775808, 9223372036854775807)) else none)) else (bif Nat.blt j 141 then (bif Nat.beq j 140 then some ((0, 1)) else none) else (bif Nat.beq j 141 then some ((0, 8)) else none))) else (bif Nat.blt j 144 then (bif Nat.blt j 143 then (bif Nat.beq j 142 then some ((-9223372036854775808, 9223372036854775807)) else none) else (bif Nat.beq j 143 then some ((0, 300)) else none)) else (bif Nat.blt j 145 then (bif Nat.beq j 144 then some ((-1, 15)) else none) else (bif Nat.blt j 147 then (bif Nat.beq j 145 then some ((0, 40)) else none) else (bif Nat.beq j 147 then some ((0, 15)) else none))))
noncomputable def xrf0 (j : Nat) : Option (Int × Int) := bif Nat.blt j 83 then (bif Nat.blt j 34 then (xrf0_0 j) else (bif Nat.blt j 73 then (xrf0_1 j) else (xrf0_2 j))) else (bif Nat.blt j 111 then (xrf0_3 j) else (bif Nat.blt j 138 then (xrf0_4 j) else (xrf0_5 j)))
noncomputable def xrr0_0 (a : Nat) : Option (Int × Int) := bif Nat.blt a 604 then (bif Nat.blt a 601 then (bif Nat.blt a 600 then (bif Nat.beq a 599 then some ((0, 255)) else none) else (bif Nat.beq a 600 then some ((-1, 400)) else none)) else (bif Nat.blt a 602 then (bif Nat.beq a 601 then some ((0, 255)) else none) else (bif Nat.blt a 603 then (bif Nat.beq a 602 then some ((-9223372036854775808, 9223372036854775807)) else none) else (bif Nat.beq a 603 then some ((0, 11)) else none)))) else (bif Nat.blt a 606 then (bif Nat.blt a 605 then (bif Nat.beq a 604 then some ((0, 400)) else none) else (bif Nat.beq a 605 then some ((0, 400)) else none)) else (bif Nat.blt a 607 then (bif Nat.beq a 606 then some ((0, 1)) else none) else (bif Nat.blt a 608 then (bif Nat.beq a 607 then some ((0, 11)) else none) else (bif Nat.beq a 608 then some ((-9223372036854775808, 9223372036854775807)) else none))))
noncomputable def xrr0_1 (a : Nat) : Option (Int × Int) := bif Nat.blt a 614 then (bif Nat.blt a 611 then (bif Nat.blt a 610 then (bif Nat.beq a 609 then some ((-9223372036854775808, 9223372036854775807)) else none) else (bif Nat.beq a 610 then some ((-9223372036854775808, 9223372036854775807)) else none)) else (bif Nat.blt a 612 then (bif Nat.beq a 611 then some ((0, 255)) else none) else (bif Nat.blt a 613 then (bif Nat.beq a 612 then some ((0, 2000030)) else none) else (bif Nat.beq a 613 then some ((0, 720)) else none)))) else (bif Nat.blt a 616 then (bif Nat.blt a 615 then (bif Nat.beq a 614 then some ((-1, 360)) else none) else (bif Nat.beq a 615 then some ((0, 255)) else none)) else (bif Nat.blt a 617 then (bif Nat.beq a 616 then some ((0, 1)) else none) else (bif Nat.blt a 618 then (bif Nat.beq a 617 then some ((-1, 400)) else none) else (bif Nat.beq a 618 then some ((0, 255)) else none))))
noncomputable def xrr0_2 (a : Nat) : Option (Int × Int) := bif Nat.blt a 624 then (bif Nat.blt a 621 then (bif Nat.blt a 620 then (bif Nat.beq a 619 then some ((0, 400)) else none) else (bif Nat.beq a 620 then some ((0, 400)) else none)) else (bif Nat.blt a 622 then (bif Nat.beq a 621 then some ((0, 400)) else none) else (bif Nat.blt a 623 then (bif Nat.beq a 622 then some ((-1, 720)) else none) else (bif Nat.beq a 623 then some ((0, 1000)) else none)))) else (bif Nat.blt a 626 then (bif Nat.blt a 625 then (bif Nat.beq a 624 then some ((0, 1000)) else none) else (bif Nat.beq a 625 then some ((0, 1000)) else none)) else (bif Nat.blt a 627 then (bif Nat.beq a 626 then some ((0, 2000000)) else none) else (bif Nat.blt a 628 then (bif Nat.beq a 627 then some ((0, 1)) else none) else (bif Nat.beq a 628 then some ((0, 1)) else none))))
noncomputable def xrr0_3 (a : Nat) : Option (Int × Int) := bif Nat.blt a 634 then (bif Nat.blt a 631 then (bif Nat.blt a 630 then (bif Nat.beq a 629 then some ((0, 255)) else none) else (bif Nat.beq a 630 then some ((-9223372036854775808, 9223372036854775807)) else none)) else (bif Nat.blt a 632 then (bif Nat.beq a 631 then some ((0, 65535)) else none) else (bif Nat.blt a 633 then (bif Nat.beq a 632 then some ((0, 1)) else none) else (bif Nat.beq a 633 then some ((-2147483648, 2147483647)) else none)))) else (bif Nat.blt a 636 then (bif Nat.blt a 635 then (bif Nat.beq a 634 then some ((0, 1)) else none) else (bif Nat.beq a 635 then some ((0, 65535)) else none)) else (bif Nat.blt a 637 then (bif Nat.beq a 636 then some ((-9223372036854775808, 9223372036854775807)) else none) else (bif Nat.blt a 638 then (bif Nat.beq a 637 then some ((-9223372036854775808, 9223372036854775807)) else none) else (bif Nat.beq a 638 then some ((0, 15)) else none))))
noncomputable def xrr0_4 (a : Nat) : Option (Int × Int) := bif Nat.blt a 644 then (bif Nat.blt a 641 then (bif Nat.blt a 640 then (bif Nat.beq a 639 then some ((-2147483648, 2147483647)) else none) else (bif Nat.beq a 640 then some ((-1, 3)) else none)) else (bif Nat.blt a 642 then (bif Nat.beq a 641 then some ((-9223372036854775808, 9223372036854775807)) else none) else (bif Nat.blt a 643 then (bif Nat.beq a 642 then some ((0, 70000)) else none) else (bif Nat.beq a 643 then some ((0, 1)) else none)))) else (bif Nat.blt a 646 then (bif Nat.blt a 645 then (bif Nat.beq a 644 then some ((-9223372036854775808, 9223372036854775807)) else none) else (bif Nat.beq a 645 then some ((0, 65535)) else none)) else (bif Nat.blt a 647 then (bif Nat.beq a 646 then some ((0, 32)) else none) else (bif Nat.blt a 648 then (bif Nat.beq a 647 then some ((0, 10)) else none) else (bif Nat.beq a 648 then some ((0, 26)) else none))))
noncomputable def xrr0_5 (a : Nat) : Option (Int × Int) := bif Nat.blt a 654 then (bif Nat.blt a 651 then (bif Nat.blt a 650 then (bif Nat.beq a 649 then some ((-9223372036854775808, 9223372036854775807)) else none) else (bif Nat.beq a 650 then some ((-1, 68)) else none)) else (bif Nat.blt a 652 then (bif Nat.beq a 651 then some ((0, 255)) else none) else (bif Nat.blt a 653 then (bif Nat.beq a 652 then some ((0, 2200)) else none) else (bif Nat.beq a 653 then some ((-1, 2200)) else none)))) else (bif Nat.blt a 656 then (bif Nat.blt a 655 then (bif Nat.beq a 654 then some ((0, 1000)) else none) else (bif Nat.beq a 655 then some ((-9223372036854775808, 9223372036854775807)) else none)) else (bif Nat.blt a 657 then (bif Nat.beq a 656 then some ((-9223372036854775808, 9223372036854775807)) else none) else (bif Nat.blt a 658 then (bif Nat.beq a 657 then some ((0, 2200)) else none) else (bif Nat.beq a 658 then some ((-1, 2200)) else none))))
noncomputable def xrr0_6 (a : Nat) : Option (Int × Int) := bif Nat.blt a 664 then (bif Nat.blt a 661 then (bif Nat.blt a 660 then (bif Nat.beq a 659 then some ((0, 1000)) else none) else (bif Nat.beq a 660 then some ((-9223372036854775808, 9223372036854775807)) else none)) else (bif Nat.blt a 662 then (bif Nat.beq a 661 then some ((-9223372036854775808, 9223372036854775807)) else none) else (bif Nat.blt a 663 then (bif Nat.beq a 662 then some ((0, 1600)) else none) else (bif Nat.beq a 663 then some ((0, 2200)) else none)))) else (bif Nat.blt a 666 then (bif Nat.blt a 665 then (bif Nat.beq a 664 then some ((0, 255)) else none) else (bif Nat.beq a 665 then some ((0, 2200)) else none)) else (bif Nat.blt a 667 then (bif Nat.beq a 666 then some ((-1, 68)) else none) else (bif Nat.blt a 668 then (bif Nat.beq a 667 then some ((0, 4)) else none) else (bif Nat.beq a 668 then some ((0, 3)) else none))))
noncomputable def xrr0_7 (a : Nat) : Option (Int × Int) := bif Nat.blt a 674 then (bif Nat.blt a 671 then (bif Nat.blt a 670 then (bif Nat.beq a 669 then some ((0, 2200)) else none) else (bif Nat.beq a 670 then some ((-9223372036854775808, 9223372036854775807)) else none)) else (bif Nat.blt a 672 then (bif Nat.beq a 671 then some ((-9223372036854775808, 9223372036854775807)) else none) else (bif Nat.blt a 673 then (bif Nat.beq a 672 then some ((0, 16)) else none) else (bif Nat.beq a 673 then some ((-9223372036854775808, 9223372036854775807)) else none)))) else (bif Nat.blt a 676 then (bif Nat.blt a 675 then (bif Nat.beq a 674 then some ((-1, 6)) else none) else (bif Nat.beq a 675 then some ((0, 40)) else none)) else (bif Nat.blt a 677 then (bif Nat.beq a 676 then some ((-9223372036854775808, 9223372036854775807)) else none) else (bif Nat.blt a 678 then (bif Nat.beq a 677 then some ((-1, 11)) else none) else (bif Nat.beq a 678 then some ((-9223372036854775808, 9223372036854775807)) else none))))
noncomputable def xrr0_8 (a : Nat) : Option (Int × Int) := bif Nat.blt a 683 then (bif Nat.blt a 681 then (bif Nat.blt a 680 then (bif Nat.beq a 679 then some ((0, 15)) else none) else (bif Nat.beq a 680 then some ((0, 1)) else none)) else (bif Nat.blt a 682 then (bif Nat.beq a 681 then some ((0, 2200)) else none) else (bif Nat.beq a 682 then some ((0, 1)) else none))) else (bif Nat.blt a 685 then (bif Nat.blt a 684 then (bif Nat.beq a 683 then some ((0, 2)) else none) else (bif Nat.beq a 684 then some ((0, 8)) else none)) else (bif Nat.blt a 686 then (bif Nat.beq a 685 then some ((-9223372036854775808, 9223372036854775807)) else none) else (bif Nat.blt a 687 then (bif Nat.beq a 686 then some ((-9223372036854775808, 9223372036854775807)) else none) else (bif Nat.beq a 687 then some ((0, 1600)) else none))))
noncomputable def xrr0 (a : Nat) : Option (Int × Int) := bif Nat.blt a 639 then (bif Nat.blt a 619 then (bif Nat.blt a 609 then (xrr0_0 a) else (xrr0_1 a)) else (bif Nat.blt a 629 then (xrr0_2 a) else (xrr0_3 a))) else (bif Nat.blt a 659 then (bif Nat.blt a 649 then (xrr0_4 a) else (xrr0_5 a)) else (bif Nat.blt a 669 then (xrr0_6 a) else (bif Nat.blt a 679 then (xrr0_7 a) else (xrr0_8 a))))
noncomputable def xri (a : Nat) (i : Int) : Int × Int := bif Nat.beq a 598 then (xrf0 i.toNat).getD (-9223372036854775808, 9223372036854775807) else (xrr0 a).getD (-9223372036854775808, 9223372036854775807)
/-- every cell of the reference is within its interval -/
noncomputable def RI (M : jm) : Prop := ∀ (a : Nat) (i : Int), 598 ≤ a → (xri a i).1 ≤ M a i ∧ M a i ≤ (xri a i).2
theorem RI.u {M : jm} (h : RI M) {a : Nat} {i v : Int} (hv : (xri a i).1 ≤ v ∧ v ≤ (xri a i).2) : RI (ju M a i v) := by
  intro b k hb
  by_cases hq : b = a ∧ k = i
  · obtain ⟨rfl, rfl⟩ := hq
    rw [ju_same]
    exact hv
  · rw [ju_ne M v hq]
    exact h b k hb
/-- a row's interval doesn't ask for the place -/
theorem xri_row {a : Nat} {lo hi : Int} (ha : Nat.beq a 598 = false) (h : (xrr0 a).getD (-9223372036854775808, 9223372036854775807) = (lo, hi)) (i : Int) : xri a i = (lo, hi) := by
  unfold xri
  rw [ha]
  exact h
theorem j_zn {x : Int} (h : 0 ≤ x ∧ x ≤ 1) : vp_nar .boolean (Int32.ofInt x) = Int32.ofInt x := by
  rcases (show x = 0 ∨ x = 1 by omega) with rfl | rfl <;> decide
end
section
/-! ===== the reference: its headers lie within the packet ===== -/
noncomputable def lst (k : Int) : Int := if k = 2 ∨ k = 8 then 20 else if k = 3 then 24 else if k = 0 ∨ k = 1 ∨ k = 10 then 4 else if k = 11 then 0 else 8
theorem lst_le (k : Int) : 0 ≤ lst k ∧ lst k ≤ 24 := by unfold lst; split <;> (try split) <;> (try split) <;> (try split) <;> omega
theorem lst_k (k : Int) : (k = 2 → lst k = 20) ∧ (k = 8 → lst k = 20) ∧ (k = 3 → lst k = 24) ∧ (k = 0 → lst k = 4) ∧ (k = 1 → lst k = 4) ∧ (k = 10 → lst k = 4) ∧ (k = 11 → lst k = 0) ∧ (4 ≤ k ∧ k ≤ 7 ∨ k = 9 → lst k = 8) := by
  refine ⟨?_, ?_, ?_, ?_, ?_, ?_, ?_, ?_⟩ <;> intro h <;> unfold lst <;> (repeat' split) <;> omega
noncomputable def RH (M : jm) : Prop := ∀ h : Int, M 604 h + lst (M 603 h) ≤ 400 ∧ M 604 h + M 605 h ≤ 400 ∧ M 604 h ≤ 399
theorem RH.o {M : jm} (h : RH M) {a : Nat} {i v : Int} (h3 : 603 ≠ a) (h4 : 604 ≠ a) (h5 : 605 ≠ a) : RH (ju M a i v) := by
  intro j
  rw [ju_c M v h3, ju_c M v h4, ju_c M v h5]
  exact h j
theorem RH.w {M : jm} (h : RH M) {j k a s : Int} (h1 : a + lst k ≤ 400) (h2 : a + s ≤ 400) (h3 : a ≤ 399) : RH (ju (ju (ju M 603 j k) 604 j a) 605 j s) := by
  intro i
  by_cases hi : i = j
  · subst hi
    rw [ju_c _ _ (by decide : (604 : Nat) ≠ 605), ju_same, ju_c _ _ (by decide : (603 : Nat) ≠ 605), ju_c _ _ (by decide : (603 : Nat) ≠ 604), ju_same, ju_same]
    exact ⟨h1, h2, h3⟩
  · rw [ju_c _ _ (by decide : (604 : Nat) ≠ 605), ju_i _ _ hi, ju_c _ _ (by decide : (604 : Nat) ≠ 603), ju_c _ _ (by decide : (603 : Nat) ≠ 605), ju_c _ _ (by decide : (603 : Nat) ≠ 604), ju_i _ _ hi, ju_i _ _ hi, ju_c _ _ (by decide : (605 : Nat) ≠ 604), ju_c _ _ (by decide : (605 : Nat) ≠ 603)]
    exact h i
theorem j_rem_ex {x y : Int} (hx : 0 ≤ x ∧ x ≤ 2147483647) (hy : 0 < y ∧ y ≤ 2147483647) : j_rem x y = x % y := by
  have e1 : (Int32.ofInt x).toInt = x := Int32.toInt_ofInt_of_le (by omega) (by omega)
  have e2 : (Int32.ofInt y).toInt = y := Int32.toInt_ofInt_of_le (by omega) (by omega)
  have hd : Int32.ofInt x / Int32.ofInt y = Int32.ofInt (x.tdiv y) := (Int32.ofInt_tdiv (by show (-2147483648 : Int) ≤ x; omega) (by show x ≤ (2147483647 : Int); omega) (by show (-2147483648 : Int) ≤ y; omega) (by show y ≤ (2147483647 : Int); omega)).symm
  unfold j_rem
  rw [hd, ← Int32.ofInt_mul, ← Int32.ofInt_sub]
  have e3 : x - x.tdiv y * y = x % y := by
    rw [Int.tdiv_eq_ediv_of_nonneg hx.1, Int.mul_comm]
    have := Int.emod_def x y
    omega
  rw [e3]
  have h1 := Int.emod_nonneg x (show y ≠ 0 by omega)
  have h2 := Int.emod_lt_of_pos x hy.1
  exact Int32.toInt_ofInt_of_le (by omega) (by omega)
theorem j_div_ex {x y : Int} (hx : 0 ≤ x ∧ x ≤ 2147483647) (hy : 0 < y ∧ y ≤ 2147483647) : j_div x y = x / y := by
  have hd : Int32.ofInt x / Int32.ofInt y = Int32.ofInt (x.tdiv y) := (Int32.ofInt_tdiv (by show (-2147483648 : Int) ≤ x; omega) (by show x ≤ (2147483647 : Int); omega) (by show (-2147483648 : Int) ≤ y; omega) (by show y ≤ (2147483647 : Int); omega)).symm
  unfold j_div
  rw [hd, Int.tdiv_eq_ediv_of_nonneg hx.1]
  have h1 : 0 ≤ x / y := Int.ediv_nonneg hx.1 (by omega)
  have h2 : x / y ≤ x := Int.ediv_le_self y hx.1
  exact Int32.toInt_ofInt_of_le (by omega) (by omega)
noncomputable def fldn (k : Int) : Int := if k = 2 then 11 else if k = 3 then 7 else if k = 8 then 8 else if k = 4 ∨ k = 10 then 2 else if k = 11 then 1 else if k = 0 ∨ k = 1 ∨ k = 5 then 3 else 4
theorem fldn_k (k : Int) : (k = 0 → fldn k = 3) ∧ (k = 1 → fldn k = 3) ∧ (k = 2 → fldn k = 11) ∧ (k = 3 → fldn k = 7) ∧ (k = 4 → fldn k = 2) ∧ (k = 5 → fldn k = 3) ∧ (k = 6 → fldn k = 4) ∧ (k = 7 → fldn k = 4) ∧ (k = 8 → fldn k = 8) ∧ (k = 9 → fldn k = 4) ∧ (k = 10 → fldn k = 2) ∧ (k = 11 → fldn k = 1) := by
  refine ⟨?_, ?_, ?_, ?_, ?_, ?_, ?_, ?_, ?_, ?_, ?_, ?_⟩ <;> intro h <;> unfold fldn <;> (repeat' split) <;> omega
theorem fldn_le (k : Int) : 1 ≤ fldn k ∧ fldn k ≤ 11 := by unfold fldn; (repeat' split) <;> omega
theorem RH.two {M : jm} (h : RH M) (t : Int) : (M 603 t = 2 → M 604 t ≤ 380) ∧ (M 603 t = 3 → M 604 t ≤ 376) := by
  have h1 := (h t).1
  refine ⟨fun e => ?_, fun e => ?_⟩ <;> rw [e] at h1
  · have : lst 2 = 20 := by decide
    omega
  · have : lst 3 = 24 := by decide
    omega
theorem j_zr {x : Int} (h : 0 ≤ x ∧ x ≤ 1) : narrow .boolean (.int (Int32.ofInt x)) = .int (Int32.ofInt x) := by
  rcases (show x = 0 ∨ x = 1 by omega) with rfl | rfl <;> decide
theorem RH.part {M : jm} (h : RH M) (t : Int) : M 603 t = 6 → M 604 t ≤ 392 := by
  intro e
  have h1 := (h t).1
  rw [e] at h1
  have : lst 6 = 8 := by decide
  omega
theorem RH.car {M : jm} (h : RH M) (t : Int) : (M 603 t = 7 ∨ M 603 t = 8 ∨ M 603 t = 9 → M 604 t ≤ 392) ∧ (M 603 t = 8 → M 604 t ≤ 380) := by
  have h1 := (h t).1
  refine ⟨fun e => ?_, fun e => ?_⟩
  · rcases e with e | e | e <;> rw [e] at h1
    · have : lst 7 = 8 := by decide
      omega
    · have : lst 8 = 20 := by decide
      omega
    · have : lst 9 = 8 := by decide
      omega
  · rw [e] at h1
    have : lst 8 = 20 := by decide
    omega
end
section
/-! ===== the reference: the ends that stand; states of flows ===== -/
noncomputable def RE (M : jm) : Prop := 0 ≤ M 598 65 ∧ M 598 65 < M 598 6 ∧ (M 603 (M 598 65) = 7 ∨ M 603 (M 598 65) = 8 ∨ M 603 (M 598 65) = 9) ∧ (M 598 60 = 6 → M 603 (M 598 65) = 8) ∧ (M 598 60 = 1 ∨ M 598 60 = 6 ∨ M 598 60 = 17) ∧ ∃ t : Int, 0 ≤ t ∧ t < M 598 6 ∧ (M 603 t = 2 ∨ M 603 t = 3)
theorem RE.mk' {M : jm} {h : Int} (e : M 598 65 = h) (h0 : 0 ≤ h) (h1 : h < M 598 6) (h2 : M 603 h = 7 ∨ M 603 h = 8 ∨ M 603 h = 9) (h3 : M 598 60 = 6 → M 603 h = 8) (h4 : M 598 60 = 1 ∨ M 598 60 = 6 ∨ M 598 60 = 17) {t : Int} (t0 : 0 ≤ t) (t1 : t < M 598 6) (t2 : M 603 t = 2 ∨ M 603 t = 3) : RE M := by
  subst e
  exact ⟨h0, h1, h2, h3, h4, t, t0, t1, t2⟩
theorem RE.fr {M M' : jm} (h : RE M) (e65 : M' 598 65 = M 598 65) (e6 : M' 598 6 = M 598 6) (e60 : M' 598 60 = M 598 60) (e3 : ∀ i, M' 603 i = M 603 i) : RE M' := by
  obtain ⟨a1, a2, a3, a4, a5, t, b1, b2, b3⟩ := h
  exact ⟨by rw [e65]; exact a1, by rw [e65, e6]; exact a2, by rw [e65, e3]; exact a3, by rw [e65, e60, e3]; exact a4, by rw [e60]; exact a5, t, b1, by rw [e6]; exact b2, by rw [e3]; exact b3⟩
noncomputable def RF (M : jm) : Prop := ∀ f : Int, 0 ≤ f → M 629 f = 6 → 1 ≤ M 638 f ∧ M 638 f ≤ 10
noncomputable def RFx (M : jm) (g : Int) : Prop := ∀ f : Int, f ≠ g → 0 ≤ f → M 629 f = 6 → 1 ≤ M 638 f ∧ M 638 f ≤ 10
theorem RFx.none {M : jm} {g : Int} (h : RFx M g) (hg : g < 0) : RF M := fun f hf => h f (by omega) hf
theorem RF.fr {M M' : jm} (h : RF M) (h1 : ∀ f, M' 629 f = M 629 f) (h2 : ∀ f, M' 638 f = M 638 f) : RF M' := by
  intro f
  rw [h1, h2]
  exact h f
theorem RFx.fr {M M' : jm} {g : Int} (h : RFx M g) (h1 : ∀ f, M' 629 f = M 629 f) (h2 : ∀ f, M' 638 f = M 638 f) : RFx M' g := by
  intro f
  rw [h1, h2]
  exact h f
theorem RF.o {M : jm} (h : RF M) {a : Nat} {i v : Int} (h1 : 629 ≠ a) (h2 : 638 ≠ a) : RF (ju M a i v) := by
  intro f
  rw [ju_c M v h1, ju_c M v h2]
  exact h f
theorem RFx.o {M : jm} {g : Int} (h : RFx M g) {a : Nat} {i v : Int} (h1 : 629 ≠ a) (h2 : 638 ≠ a) : RFx (ju M a i v) g := by
  intro f
  rw [ju_c M v h1, ju_c M v h2]
  exact h f
theorem RF.x {M : jm} (h : RF M) {g v : Int} : RFx (ju M 629 g v) g := by
  intro f hf
  rw [ju_i M v hf, ju_c M v (by decide : (638 : Nat) ≠ 629)]
  exact h f
theorem RFx.x {M : jm} {g : Int} (h : RFx M g) {v : Int} : RFx (ju M 629 g v) g := by
  intro f hf
  rw [ju_i M v hf, ju_c M v (by decide : (638 : Nat) ≠ 629)]
  exact h f hf
theorem RFx.w {M : jm} {g : Int} (h : RFx M g) {s : Int} (hs : M 629 g = 6 → 1 ≤ s ∧ s ≤ 10) : RF (ju M 638 g s) := by
  intro f h0
  rw [ju_c M s (by decide : (629 : Nat) ≠ 638)]
  by_cases hf : f = g
  · subst hf
    rw [ju_same]
    exact hs
  · rw [ju_i M s hf]
    exact h f hf h0
theorem RF.w {M : jm} (h : RF M) {g s : Int} (hs : M 629 g = 6 → 1 ≤ s ∧ s ≤ 10) : RF (ju M 638 g s) := RFx.w (fun f _ => h f) hs
end
section
/-! ===== what the methods of packets and flows leave as it is; heads of kind FOUR; masks ===== -/
noncomputable def sS (a : Nat) (i : Int) : Bool := Nat.blt a 598 || (bif Nat.beq a 598 then (Nat.beq i.toNat 2 || Nat.ble 72 i.toNat) else ((Nat.ble 606 a && Nat.ble a 614) || (Nat.ble 617 a && Nat.ble a 621) || Nat.ble 647 a))
noncomputable def Kp (T M : jm) : Prop := ∀ (a : Nat) (i : Int), sS a i = true → M a i = T a i
theorem Kp.rfl (M : jm) : Kp M M := fun _ _ _ => Eq.refl _
theorem Kp.o {T M : jm} (h : Kp T M) {a : Nat} {i v : Int} (hs : sS a i = false) : Kp T (ju M a i v) := by
  intro b k hb
  by_cases hq : b = a ∧ k = i
  · obtain ⟨h1, h2⟩ := hq
    subst h1
    subst h2
    rw [hs] at hb
    cases hb
  · rw [ju_ne M v hq]
    exact h b k hb
noncomputable def LK (x : Int) (M : jm) : Prop := ∀ h : Int, 0 ≤ h → h < M 598 6 → M 604 h + M 605 h ≤ M 600 x ∧ lst (M 603 h) ≤ M 605 h ∧ (M 603 h = 2 → M 605 h = 4 * (M 601 (400 * x + M 604 h) % 16))
theorem LK.zero {x : Int} {M : jm} (e : M 598 6 = 0) : LK x M := by
  intro h h0 h1
  rw [e] at h1
  omega
theorem LK.fr {x : Int} {M M' : jm} (h : LK x M) (e6 : M' 598 6 = M 598 6) (e0 : ∀ i, M' 600 i = M 600 i) (e1 : ∀ i, M' 601 i = M 601 i) (e3 : ∀ i, M' 603 i = M 603 i) (e4 : ∀ i, M' 604 i = M 604 i) (e5 : ∀ i, M' 605 i = M 605 i) : LK x M' := by
  intro k k0 k1
  rw [e5, e1, e4, e3, e0]
  rw [e6] at k1
  exact h k k0 k1
theorem LK.add {x : Int} {M : jm} (h : LK x M) {H k a s : Int} (e : M 598 6 = H) (hs : a + s ≤ M 600 x) (hl : lst k ≤ s) (hk : k = 2 → s = 4 * (M 601 (400 * x + a) % 16)) : LK x (ju (ju (ju (ju M 603 H k) 604 H a) 605 H s) 598 6 (H + 1)) := by
  intro j j0 j1
  rw [ju_same] at j1
  rw [ju_c _ _ (by decide : (603 : Nat) ≠ 598), ju_c _ _ (by decide : (603 : Nat) ≠ 605), ju_c _ _ (by decide : (603 : Nat) ≠ 604), ju_c _ _ (by decide : (605 : Nat) ≠ 598), ju_c _ _ (by decide : (601 : Nat) ≠ 598), ju_c _ _ (by decide : (601 : Nat) ≠ 605), ju_c _ _ (by decide : (601 : Nat) ≠ 604), ju_c _ _ (by decide : (601 : Nat) ≠ 603), ju_c _ _ (by decide : (600 : Nat) ≠ 598), ju_c _ _ (by decide : (600 : Nat) ≠ 605), ju_c _ _ (by decide : (600 : Nat) ≠ 604), ju_c _ _ (by decide : (600 : Nat) ≠ 603), ju_c _ _ (by decide : (604 : Nat) ≠ 598), ju_c _ _ (by decide : (604 : Nat) ≠ 605)]
  by_cases hj : j = H
  · subst hj
    rw [ju_same, ju_same, ju_same]
    exact ⟨hs, hl, hk⟩
  · repeat rw [ju_i _ _ hj]
    exact h j j0 (by omega)
theorem j_and_mask {x : Int} (k : Nat) (hk : k < 31) (h0 : 0 ≤ x) (h1 : x ≤ 2147483647) : j_and x ((2 ^ k - 1 : Nat) : Int) = x % (2 ^ k : Nat) := by
  have hp : 0 < 2 ^ k := Nat.two_pow_pos k
  have hp2 : 2 ^ k ≤ 2 ^ 30 := Nat.pow_le_pow_right (by decide) (by omega)
  have hp3 : 2 ^ 30 = 1073741824 := Eq.refl _
  obtain ⟨n, rfl⟩ := Int.eq_ofNat_of_zero_le h0
  unfold j_and
  have hN : (Int32.ofInt (n : Int) &&& Int32.ofInt ((2 ^ k - 1 : Nat) : Int)).toBitVec.toNat = n % 2 ^ k := by
    rw [Int32.toBitVec_and, BitVec.toNat_and, jb_tn, jb_tn]
    rw [show ((n : Int) % 4294967296).toNat = n by omega, show (((2 ^ k - 1 : Nat) : Int) % 4294967296).toNat = 2 ^ k - 1 by omega]
    exact Nat.and_two_pow_sub_one_eq_mod n k
  have hl : n % 2 ^ k < 2 ^ k := Nat.mod_lt _ hp
  have e2 : ((n : Int) % (2 ^ k : Nat)) = ((n % 2 ^ k : Nat) : Int) := by simp
  rw [e2, jb_ti, hN]
  split <;> omega
noncomputable def rG (a : Nat) : Bool := Nat.beq a 606 || Nat.beq a 607 || Nat.beq a 613 || Nat.beq a 617 || Nat.beq a 618 || Nat.beq a 619 || Nat.beq a 620 || Nat.beq a 621
noncomputable def RGs (M : jm) (g : Int) : Prop := M 606 g ≠ 0 → 1 ≤ M 613 g ∧ (M 617 g ≠ -1 → 8 ≤ M 617 g ∧ 0 ≤ M 621 g ∧ M 621 g ≤ 380 ∧ M 619 g ≤ 392 ∧ M 620 g ≤ 399 ∧ (M 607 g = 2 → M 621 g < M 617 g ∧ M 621 g + 4 * (M 618 (400 * g + M 621 g) % 16) ≤ 400))
noncomputable def RG1 (M : jm) : Prop := ∀ j : Int, 0 ≤ j → RGs M j
end
