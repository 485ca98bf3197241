section
noncomputable def Kp (T M : jm) : Prop := ∀ (a : Nat) (i : Int), sS a i = true → M a i = T a i
theorem Kp.rfl (M : jm) : Kp M M := fun _ _ _ => Eq.refl _
theorem Kp.o {T M : jm} (h : Kp T M) {a : Nat} {i v : Int} (hs : sS a i = false) : Kp T (ju M a i v) := by
  intro b k hb
  by_cases hq : b = a ∧ k = i
  · obtain ⟨h1, h2⟩ := hq
    subst h1
    subst h2
    rw [hs] at hb
    cases hb
  · rw [ju_ne M v hq]
    exact h b k hb
noncomputable def LK (x : Int) (M : jm) : Prop := ∀ h : Int, 0 ≤ h → h < M 598 6 → M 604 h + M 605 h ≤ M 600 x ∧ lst (M 603 h) ≤ M 605 h ∧ (M 603 h = 2 → M 605 h = 4 * (M 601 (400 * x + M 604 h) % 16))
theorem LK.zero {x : Int} {M : jm} (e : M 598 6 = 0) : LK x M := by
  intro h h0 h1
  rw [e] at h1
  omega
theorem LK.fr {x : Int} {M M' : jm} (h : LK x M) (e6 : M' 598 6 = M 598 6) (e0 : ∀ i, M' 600 i = M 600 i) (e1 : ∀ i, M' 601 i = M 601 i) (e3 : ∀ i, M' 603 i = M 603 i) (e4 : ∀ i, M' 604 i = M 604 i) (e5 : ∀ i, M' 605 i = M 605 i) : LK x M' := by
  intro k k0 k1
  rw [e5, e1, e4, e3, e0]
  rw [e6] at k1
  exact h k k0 k1
theorem LK.add {x : Int} {M : jm} (h : LK x M) {H k a s : Int} (e : M 598 6 = H) (hs : a + s ≤ M 600 x) (hl : lst k ≤ s) (hk : k = 2 → s = 4 * (M 601 (400 * x + a) % 16)) : LK x (ju (ju (ju (ju M 603 H k) 604 H a) 605 H s) 598 6 (H + 1)) := by
  intro j j0 j1
  rw [ju_same] at j1
  rw [ju_c _ _ (by decide : (603 : Nat) ≠ 598), ju_c _ _ (by decide : (603 : Nat) ≠ 605), ju_c _ _ (by decide : (603 : Nat) ≠ 604), ju_c _ _ (by decide : (605 : Nat) ≠ 598), ju_c _ _ (by decide : (601 : Nat) ≠ 598), ju_c _ _ (by decide : (601 : Nat) ≠ 605), ju_c _ _ (by decide : (601 : Nat) ≠ 604), ju_c _ _ (by decide : (601 : Nat) ≠ 603), ju_c _ _ (by decide : (600 : Nat) ≠ 598), ju_c _ _ (by decide : (600 : Nat) ≠ 605), ju_c _ _ (by decide : (600 : Nat) ≠ 604), ju_c _ _ (by decide : (600 : Nat) ≠ 603), ju_c _ _ (by decide : (604 : Nat) ≠ 598), ju_c _ _ (by decide : (604 : Nat) ≠ 605)]
  by_cases hj : j = H
  · subst hj
    rw [ju_same, ju_same, ju_same]
    exact ⟨hs, hl, hk⟩
  · repeat rw [ju_i _ _ hj]
    exact h j j0 (by omega)
theorem j_and_mask {x : Int} (k : Nat) (hk : k < 31) (h0 : 0 ≤ x) (h1 : x ≤ 2147483647) : j_and x ((2 ^ k - 1 : Nat) : Int) = x % (2 ^ k : Nat) := by
  have hp : 0 < 2 ^ k := Nat.two_pow_pos k
  have hp2 : 2 ^ k ≤ 2 ^ 30 := Nat.pow_le_pow_right (by decide) (by omega)
  have hp3 : 2 ^ 30 = 1073741824 := Eq.refl _
  obtain ⟨n, rfl⟩ := Int.eq_ofNat_of_zero_le h0
  unfold j_and
  have hN : (Int32.ofInt (n : Int) &&& Int32.ofInt ((2 ^ k - 1 : Nat) : Int)).toBitVec.toNat = n % 2 ^ k := by
    rw [Int32.toBitVec_and, BitVec.toNat_and, jb_tn, jb_tn]
    rw [show ((n : Int) % 4294967296).toNat = n by omega, show (((2 ^ k - 1 : Nat) : Int) % 4294967296).toNat = 2 ^ k - 1 by omega]
    exact Nat.and_two_pow_sub_one_eq_mod n k
  have hl : n % 2 ^ k < 2 ^ k := Nat.mod_lt _ hp
  have e2 : ((n : Int) % (2 ^ k : Nat)) = ((n % 2 ^ k : Nat) : Int) := by simp
  rw [e2, jb_ti, hN]
  split <;> omega
noncomputable def rG (a : Nat) : Bool := Nat.beq a 606 || Nat.beq a 607 || Nat.beq a 613 || Nat.beq a 617 || Nat.beq a 618 || Nat.beq a 619 || Nat.beq a 620 || Nat.beq a 621
noncomputable def RGs (M : jm) (g : Int) : Prop := M 606 g ≠ 0 → 1 ≤ M 613 g ∧ (M 617 g ≠ -1 → 8 ≤ M 617 g ∧ 0 ≤ M 621 g ∧ M 621 g ≤ 380 ∧ M 619 g ≤ 392 ∧ M 620 g ≤ 399 ∧ (M 607 g = 2 → M 621 g < M 617 g ∧ M 621 g + 4 * (M 618 (400 * g + M 621 g) % 16) ≤ 400))
noncomputable def RG1 (M : jm) : Prop := ∀ j : Int, 0 ≤ j → RGs M j
noncomputable def RG1x (M : jm) (g : Int) : Prop := ∀ j : Int, 0 ≤ j → j ≠ g → RGs M j
theorem RGs.fr {M M' : jm} {j : Int} (h : RGs M j) (e : ∀ (a : Nat) (i : Int), rG a = true → M' a i = M a i) : RGs M' j := by
  unfold RGs at h ⊢
  rw [e 606 _ rfl, e 613 _ rfl, e 617 _ rfl, e 621 _ rfl, e 619 _ rfl, e 620 _ rfl, e 607 _ rfl, e 618 _ rfl]
  exact h
end
