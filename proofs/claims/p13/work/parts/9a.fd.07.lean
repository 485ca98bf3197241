section
/-! ===== the reference: sides, the flow of ends ===== -/
noncomputable def sd6 (M : jm) (f : Int) : Int := if M 627 f = 0 ∨ M 628 f ≠ M 598 59 ∨ M 629 f ≠ M 598 60 then -1 else if (M 598 61 = M 630 (2 * f) ∧ M 598 63 = M 631 (2 * f)) ∧ (M 598 62 = M 630 (2 * f + 1) ∧ M 598 64 = M 631 (2 * f + 1)) then 0 else if ((M 640 f = -1 ∧ M 598 62 = M 630 (2 * f) ∧ M 598 64 = M 631 (2 * f)) ∨ (M 640 f ≠ -1 ∧ M 598 62 = M 641 f ∧ M 598 64 = M 642 f)) ∧ (M 598 61 = M 630 (2 * f + 1) ∧ M 598 63 = M 631 (2 * f + 1)) then 1 else -1
theorem sd6_n {M : jm} {f : Int} (h : M 627 f = 0 ∨ M 628 f ≠ M 598 59 ∨ M 629 f ≠ M 598 60) : sd6 M f = -1 := by
  unfold sd6
  rw [if_pos h]
theorem sd6_0 {M : jm} {f : Int} (h : ¬ (M 627 f = 0 ∨ M 628 f ≠ M 598 59 ∨ M 629 f ≠ M 598 60)) (h1 : (M 598 61 = M 630 (2 * f) ∧ M 598 63 = M 631 (2 * f)) ∧ (M 598 62 = M 630 (2 * f + 1) ∧ M 598 64 = M 631 (2 * f + 1))) : sd6 M f = 0 := by
  unfold sd6
  rw [if_neg h, if_pos h1]
theorem sd6_1 {M : jm} {f : Int} (h : ¬ (M 627 f = 0 ∨ M 628 f ≠ M 598 59 ∨ M 629 f ≠ M 598 60)) (h1 : ¬ ((M 598 61 = M 630 (2 * f) ∧ M 598 63 = M 631 (2 * f)) ∧ (M 598 62 = M 630 (2 * f + 1) ∧ M 598 64 = M 631 (2 * f + 1)))) (h2 : (M 640 f = -1 ∧ M 598 62 = M 630 (2 * f) ∧ M 598 64 = M 631 (2 * f)) ∨ (M 640 f ≠ -1 ∧ M 598 62 = M 641 f ∧ M 598 64 = M 642 f)) (h3 : M 598 61 = M 630 (2 * f + 1) ∧ M 598 63 = M 631 (2 * f + 1)) : sd6 M f = 1 := by
  unfold sd6
  rw [if_neg h, if_neg h1, if_pos ⟨h2, h3⟩]
theorem sd6_m {M : jm} {f : Int} (h : ¬ (M 627 f = 0 ∨ M 628 f ≠ M 598 59 ∨ M 629 f ≠ M 598 60)) (h1 : ¬ ((M 598 61 = M 630 (2 * f) ∧ M 598 63 = M 631 (2 * f)) ∧ (M 598 62 = M 630 (2 * f + 1) ∧ M 598 64 = M 631 (2 * f + 1)))) (h2 : ¬ (((M 640 f = -1 ∧ M 598 62 = M 630 (2 * f) ∧ M 598 64 = M 631 (2 * f)) ∨ (M 640 f ≠ -1 ∧ M 598 62 = M 641 f ∧ M 598 64 = M 642 f)) ∧ (M 598 61 = M 630 (2 * f + 1) ∧ M 598 63 = M 631 (2 * f + 1)))) : sd6 M f = -1 := by
  unfold sd6
  rw [if_neg h, if_neg h1, if_neg h2]
theorem sd6_e {M M0 : jm} (h : ∀ (b : Nat) (i : Int), b ≠ 598 → M b i = M0 b i) (h2 : ∀ i : Int, i ≠ 66 → M 598 i = M0 598 i) (f : Int) : sd6 M f = sd6 M0 f := by
  unfold sd6
  rw [h 627 _ (by decide), h 628 _ (by decide), h 629 _ (by decide), h 630 _ (by decide), h 630 _ (by decide), h 631 _ (by decide), h 631 _ (by decide), h 640 _ (by decide), h 641 _ (by decide), h 642 _ (by decide), h2 59 (by decide), h2 60 (by decide), h2 61 (by decide), h2 62 (by decide), h2 63 (by decide), h2 64 (by decide)]
noncomputable def fe6 (M : jm) : Nat → Int → Int
  | 0, _ => -1
  | n + 1, i => if sd6 M i ≠ -1 then i else fe6 M n (i + 1)
theorem fe6_s {M : jm} {i : Int} (h : i < 24) : fe6 M (24 - i).toNat i = if sd6 M i ≠ -1 then i else fe6 M (24 - (i + 1)).toNat (i + 1) := by
  obtain ⟨n, hn⟩ : ∃ n : Nat, i = 23 - n := ⟨(23 - i).toNat, by omega⟩
  subst hn
  rw [show (24 - (23 - (n : Int))).toNat = n + 1 by omega, show (24 - (23 - (n : Int) + 1)).toNat = n by omega]
  rfl
end
