section
noncomputable def xrr0_6 (a : Nat) : Option (Int × Int) := bif Nat.blt a 664 then (bif Nat.blt a 661 then (bif Nat.blt a 660 then (bif Nat.beq a 659 then some ((0, 1000)) else none) else (bif Nat.beq a 660 then some ((-9223372036854775808, 9223372036854775807)) else none)) else (bif Nat.blt a 662 then (bif Nat.beq a 661 then some ((-9223372036854775808, 9223372036854775807)) else none) else (bif Nat.blt a 663 then (bif Nat.beq a 662 then some ((0, 1600)) else none) else (bif Nat.beq a 663 then some ((0, 2200)) else none)))) else (bif Nat.blt a 666 then (bif Nat.blt a 665 then (bif Nat.beq a 664 then some ((0, 255)) else none) else (bif Nat.beq a 665 then some ((0, 2200)) else none)) else (bif Nat.blt a 667 then (bif Nat.beq a 666 then some ((-1, 68)) else none) else (bif Nat.blt a 668 then (bif Nat.beq a 667 then some ((0, 4)) else none) else (bif Nat.beq a 668 then some ((0, 3)) else none))))
noncomputable def xrr0_7 (a : Nat) : Option (Int × Int) := bif Nat.blt a 674 then (bif Nat.blt a 671 then (bif Nat.blt a 670 then (bif Nat.beq a 669 then some ((0, 2200)) else none) else (bif Nat.beq a 670 then some ((-9223372036854775808, 9223372036854775807)) else none)) else (bif Nat.blt a 672 then (bif Nat.beq a 671 then some ((-9223372036854775808, 9223372036854775807)) else none) else (bif Nat.blt a 673 then (bif Nat.beq a 672 then some ((0, 16)) else none) else (bif Nat.beq a 673 then some ((-9223372036854775808, 9223372036854775807)) else none)))) else (bif Nat.blt a 676 then (bif Nat.blt a 675 then (bif Nat.beq a 674 then some ((-1, 6)) else none) else (bif Nat.beq a 675 then some ((0, 40)) else none)) else (bif Nat.blt a 677 then (bif Nat.beq a 676 then some ((-9223372036854775808, 9223372036854775807)) else none) else (bif Nat.blt a 678 then (bif Nat.beq a 677 then some ((-1, 11)) else none) else (bif Nat.beq a 678 then some ((-9223372036854775808, 9223372036854775807)) else none))))
noncomputable def xrr0_8 (a : Nat) : Option (Int × Int) := bif Nat.blt a 683 then (bif Nat.blt a 681 then (bif Nat.blt a 680 then (bif Nat.beq a 679 then some ((0, 15)) else none) else (bif Nat.beq a 680 then some ((0, 1)) else none)) else (bif Nat.blt a 682 then (bif Nat.beq a 681 then some ((0, 2200)) else none) else (bif Nat.beq a 682 then some ((0, 1)) else none))) else (bif Nat.blt a 685 then (bif Nat.blt a 684 then (bif Nat.beq a 683 then some ((0, 2)) else none) else (bif Nat.beq a 684 then some ((0, 8)) else none)) else (bif Nat.blt a 686 then (bif Nat.beq a 685 then some ((-9223372036854775808, 9223372036854775807)) else none) else (bif Nat.blt a 687 then (bif Nat.beq a 686 then some ((-9223372036854775808, 9223372036854775807)) else none) else (bif Nat.beq a 687 then some ((0, 1600)) else none))))
noncomputable def xrr0 (a : Nat) : Option (Int × Int) := bif Nat.blt a 639 then (bif Nat.blt a 619 then (bif Nat.blt a 609 then (xrr0_0 a) else (xrr0_1 a)) else (bif Nat.blt a 629 then (xrr0_2 a) else (xrr0_3 a))) else (bif Nat.blt a 659 then (bif Nat.blt a 649 then (xrr0_4 a) else (xrr0_5 a)) else (bif Nat.blt a 669 then (xrr0_6 a) else (bif Nat.blt a 679 then (xrr0_7 a) else (xrr0_8 a))))
noncomputable def xri (a : Nat) (i : Int) : Int × Int := bif Nat.beq a 598 then (xrf0 i.toNat).getD (-9223372036854775808, 9223372036854775807) else (xrr0 a).getD (-9223372036854775808, 9223372036854775807)
/-- every cell of the reference is within its interval -/
noncomputable def RI (M : jm) : Prop := ∀ (a : Nat) (i : Int), 598 ≤ a → (xri a i).1 ≤ M a i ∧ M a i ≤ (xri a i).2
theorem RI.u {M : jm} (h : RI M) {a : Nat} {i v : Int} (hv : (xri a i).1 ≤ v ∧ v ≤ (xri a i).2) : RI (ju M a i v) := by
  intro b k hb
  by_cases hq : b = a ∧ k = i
  · obtain ⟨rfl, rfl⟩ := hq
    rw [ju_same]
    exact hv
  · rw [ju_ne M v hq]
    exact h b k hb
/-- a row's interval doesn't ask for the place -/
theorem xri_row {a : Nat} {lo hi : Int} (ha : Nat.beq a 598 = false) (h : (xrr0 a).getD (-9223372036854775808, 9223372036854775807) = (lo, hi)) (i : Int) : xri a i = (lo, hi) := by
  unfold xri
  rw [ha]
  exact h
theorem j_zn {x : Int} (h : 0 ≤ x ∧ x ≤ 1) : vp_nar .boolean (Int32.ofInt x) = Int32.ofInt x := by
  rcases (show x = 0 ∨ x = 1 by omega) with rfl | rfl <;> decide
end
section
/-! ===== the reference: its headers lie within the packet ===== -/
noncomputable def lst (k : Int) : Int := if k = 2 ∨ k = 8 then 20 else if k = 3 then 24 else if k = 0 ∨ k = 1 ∨ k = 10 then 4 else if k = 11 then 0 else 8
theorem lst_le (k : Int) : 0 ≤ lst k ∧ lst k ≤ 24 := by unfold lst; split <;> (try split) <;> (try split) <;> (try split) <;> omega
theorem lst_k (k : Int) : (k = 2 → lst k = 20) ∧ (k = 8 → lst k = 20) ∧ (k = 3 → lst k = 24) ∧ (k = 0 → lst k = 4) ∧ (k = 1 → lst k = 4) ∧ (k = 10 → lst k = 4) ∧ (k = 11 → lst k = 0) ∧ (4 ≤ k ∧ k ≤ 7 ∨ k = 9 → lst k = 8) := by
  refine ⟨?_, ?_, ?_, ?_, ?_, ?_, ?_, ?_⟩ <;> intro h <;> unfold lst <;> (repeat' split) <;> omega
noncomputable def RH (M : jm) : Prop := ∀ h : Int, M 604 h + lst (M 603 h) ≤ 400 ∧ M 604 h + M 605 h ≤ 400 ∧ M 604 h ≤ 399
theorem RH.o {M : jm} (h : RH M) {a : Nat} {i v : Int} (h3 : 603 ≠ a) (h4 : 604 ≠ a) (h5 : 605 ≠ a) : RH (ju M a i v) := by
  intro j
  rw [ju_c M v h3, ju_c M v h4, ju_c M v h5]
  exact h j
theorem RH.w {M : jm} (h : RH M) {j k a s : Int} (h1 : a + lst k ≤ 400) (h2 : a + s ≤ 400) (h3 : a ≤ 399) : RH (ju (ju (ju M 603 j k) 604 j a) 605 j s) := by
  intro i
  by_cases hi : i = j
  · subst hi
    rw [ju_c _ _ (by decide : (604 : Nat) ≠ 605), ju_same, ju_c _ _ (by decide : (603 : Nat) ≠ 605), ju_c _ _ (by decide : (603 : Nat) ≠ 604), ju_same, ju_same]
    exact ⟨h1, h2, h3⟩
  · rw [ju_c _ _ (by decide : (604 : Nat) ≠ 605), ju_i _ _ hi, ju_c _ _ (by decide : (604 : Nat) ≠ 603), ju_c _ _ (by decide : (603 : Nat) ≠ 605), ju_c _ _ (by decide : (603 : Nat) ≠ 604), ju_i _ _ hi, ju_i _ _ hi, ju_c _ _ (by decide : (605 : Nat) ≠ 604), ju_c _ _ (by decide : (605 : Nat) ≠ 603)]
    exact h i
theorem j_rem_ex {x y : Int} (hx : 0 ≤ x ∧ x ≤ 2147483647) (hy : 0 < y ∧ y ≤ 2147483647) : j_rem x y = x % y := by
  have e1 : (Int32.ofInt x).toInt = x := Int32.toInt_ofInt_of_le (by omega) (by omega)
  have e2 : (Int32.ofInt y).toInt = y := Int32.toInt_ofInt_of_le (by omega) (by omega)
  have hd : Int32.ofInt x / Int32.ofInt y = Int32.ofInt (x.tdiv y) := (Int32.ofInt_tdiv (by show (-2147483648 : Int) ≤ x; omega) (by show x ≤ (2147483647 : Int); omega) (by show (-2147483648 : Int) ≤ y; omega) (by show y ≤ (2147483647 : Int); omega)).symm
  unfold j_rem
  rw [hd, ← Int32.ofInt_mul, ← Int32.ofInt_sub]
  have e3 : x - x.tdiv y * y = x % y := by
    rw [Int.tdiv_eq_ediv_of_nonneg hx.1, Int.mul_comm]
    have := Int.emod_def x y
    omega
  rw [e3]
  have h1 := Int.emod_nonneg x (show y ≠ 0 by omega)
  have h2 := Int.emod_lt_of_pos x hy.1
  exact Int32.toInt_ofInt_of_le (by omega) (by omega)
theorem j_div_ex {x y : Int} (hx : 0 ≤ x ∧ x ≤ 2147483647) (hy : 0 < y ∧ y ≤ 2147483647) : j_div x y = x / y := by
  have hd : Int32.ofInt x / Int32.ofInt y = Int32.ofInt (x.tdiv y) := (Int32.ofInt_tdiv (by show (-2147483648 : Int) ≤ x; omega) (by show x ≤ (2147483647 : Int); omega) (by show (-2147483648 : Int) ≤ y; omega) (by show y ≤ (2147483647 : Int); omega)).symm
  unfold j_div
  rw [hd, Int.tdiv_eq_ediv_of_nonneg hx.1]
  have h1 : 0 ≤ x / y := Int.ediv_nonneg hx.1 (by omega)
  have h2 : x / y ≤ x := Int.ediv_le_self y hx.1
  exact Int32.toInt_ofInt_of_le (by omega) (by omega)
noncomputable def fldn (k : Int) : Int := if k = 2 then 11 else if k = 3 then 7 else if k = 8 then 8 else if k = 4 ∨ k = 10 then 2 else if k = 11 then 1 else if k = 0 ∨ k = 1 ∨ k = 5 then 3 else 4
theorem fldn_k (k : Int) : (k = 0 → fldn k = 3) ∧ (k = 1 → fldn k = 3) ∧ (k = 2 → fldn k = 11) ∧ (k = 3 → fldn k = 7) ∧ (k = 4 → fldn k = 2) ∧ (k = 5 → fldn k = 3) ∧ (k = 6 → fldn k = 4) ∧ (k = 7 → fldn k = 4) ∧ (k = 8 → fldn k = 8) ∧ (k = 9 → fldn k = 4) ∧ (k = 10 → fldn k = 2) ∧ (k = 11 → fldn k = 1) := by
  refine ⟨?_, ?_, ?_, ?_, ?_, ?_, ?_, ?_, ?_, ?_, ?_, ?_⟩ <;> intro h <;> unfold fldn <;> (repeat' split) <;> omega
theorem fldn_le (k : Int) : 1 ≤ fldn k ∧ fldn k ≤ 11 := by unfold fldn; (repeat' split) <;> omega
theorem RH.two {M : jm} (h : RH M) (t : Int) : (M 603 t = 2 → M 604 t ≤ 380) ∧ (M 603 t = 3 → M 604 t ≤ 376) := by
  have h1 := (h t).1
  refine ⟨fun e => ?_, fun e => ?_⟩ <;> rw [e] at h1
  · have : lst 2 = 20 := by decide
    omega
  · have : lst 3 = 24 := by decide
    omega
theorem j_zr {x : Int} (h : 0 ≤ x ∧ x ≤ 1) : narrow .boolean (.int (Int32.ofInt x)) = .int (Int32.ofInt x) := by
  rcases (show x = 0 ∨ x = 1 by omega) with rfl | rfl <;> decide
theorem RH.part {M : jm} (h : RH M) (t : Int) : M 603 t = 6 → M 604 t ≤ 392 := by
  intro e
  have h1 := (h t).1
  rw [e] at h1
  have : lst 6 = 8 := by decide
  omega
theorem RH.car {M : jm} (h : RH M) (t : Int) : (M 603 t = 7 ∨ M 603 t = 8 ∨ M 603 t = 9 → M 604 t ≤ 392) ∧ (M 603 t = 8 → M 604 t ≤ 380) := by
  have h1 := (h t).1
  refine ⟨fun e => ?_, fun e => ?_⟩
  · rcases e with e | e | e <;> rw [e] at h1
    · have : lst 7 = 8 := by decide
      omega
    · have : lst 8 = 20 := by decide
      omega
    · have : lst 9 = 8 := by decide
      omega
  · rw [e] at h1
    have : lst 8 = 20 := by decide
    omega
end
section
/-! ===== the reference: the ends that stand; states of flows ===== -/
noncomputable def RE (M : jm) : Prop := 0 ≤ M 598 65 ∧ M 598 65 < M 598 6 ∧ (M 603 (M 598 65) = 7 ∨ M 603 (M 598 65) = 8 ∨ M 603 (M 598 65) = 9) ∧ (M 598 60 = 6 → M 603 (M 598 65) = 8) ∧ (M 598 60 = 1 ∨ M 598 60 = 6 ∨ M 598 60 = 17) ∧ ∃ t : Int, 0 ≤ t ∧ t < M 598 6 ∧ (M 603 t = 2 ∨ M 603 t = 3)
theorem RE.mk' {M : jm} {h : Int} (e : M 598 65 = h) (h0 : 0 ≤ h) (h1 : h < M 598 6) (h2 : M 603 h = 7 ∨ M 603 h = 8 ∨ M 603 h = 9) (h3 : M 598 60 = 6 → M 603 h = 8) (h4 : M 598 60 = 1 ∨ M 598 60 = 6 ∨ M 598 60 = 17) {t : Int} (t0 : 0 ≤ t) (t1 : t < M 598 6) (t2 : M 603 t = 2 ∨ M 603 t = 3) : RE M := by
  subst e
  exact ⟨h0, h1, h2, h3, h4, t, t0, t1, t2⟩
theorem RE.fr {M M' : jm} (h : RE M) (e65 : M' 598 65 = M 598 65) (e6 : M' 598 6 = M 598 6) (e60 : M' 598 60 = M 598 60) (e3 : ∀ i, M' 603 i = M 603 i) : RE M' := by
  obtain ⟨a1, a2, a3, a4, a5, t, b1, b2, b3⟩ := h
  exact ⟨by rw [e65]; exact a1, by rw [e65, e6]; exact a2, by rw [e65, e3]; exact a3, by rw [e65, e60, e3]; exact a4, by rw [e60]; exact a5, t, b1, by rw [e6]; exact b2, by rw [e3]; exact b3⟩
noncomputable def RF (M : jm) : Prop := ∀ f : Int, 0 ≤ f → M 629 f = 6 → 1 ≤ M 638 f ∧ M 638 f ≤ 10
noncomputable def RFx (M : jm) (g : Int) : Prop := ∀ f : Int, f ≠ g → 0 ≤ f → M 629 f = 6 → 1 ≤ M 638 f ∧ M 638 f ≤ 10
theorem RFx.none {M : jm} {g : Int} (h : RFx M g) (hg : g < 0) : RF M := fun f hf => h f (by omega) hf
theorem RF.fr {M M' : jm} (h : RF M) (h1 : ∀ f, M' 629 f = M 629 f) (h2 : ∀ f, M' 638 f = M 638 f) : RF M' := by
  intro f
  rw [h1, h2]
  exact h f
theorem RFx.fr {M M' : jm} {g : Int} (h : RFx M g) (h1 : ∀ f, M' 629 f = M 629 f) (h2 : ∀ f, M' 638 f = M 638 f) : RFx M' g := by
  intro f
  rw [h1, h2]
  exact h f
theorem RF.o {M : jm} (h : RF M) {a : Nat} {i v : Int} (h1 : 629 ≠ a) (h2 : 638 ≠ a) : RF (ju M a i v) := by
  intro f
  rw [ju_c M v h1, ju_c M v h2]
  exact h f
theorem RFx.o {M : jm} {g : Int} (h : RFx M g) {a : Nat} {i v : Int} (h1 : 629 ≠ a) (h2 : 638 ≠ a) : RFx (ju M a i v) g := by
  intro f
  rw [ju_c M v h1, ju_c M v h2]
  exact h f
theorem RF.x {M : jm} (h : RF M) {g v : Int} : RFx (ju M 629 g v) g := by
  intro f hf
  rw [ju_i M v hf, ju_c M v (by decide : (638 : Nat) ≠ 629)]
  exact h f
theorem RFx.x {M : jm} {g : Int} (h : RFx M g) {v : Int} : RFx (ju M 629 g v) g := by
  intro f hf
  rw [ju_i M v hf, ju_c M v (by decide : (638 : Nat) ≠ 629)]
  exact h f hf
theorem RFx.w {M : jm} {g : Int} (h : RFx M g) {s : Int} (hs : M 629 g = 6 → 1 ≤ s ∧ s ≤ 10) : RF (ju M 638 g s) := by
  intro f h0
  rw [ju_c M s (by decide : (629 : Nat) ≠ 638)]
  by_cases hf : f = g
  · subst hf
    rw [ju_same]
    exact hs
  · rw [ju_i M s hf]
    exact h f hf h0
end
