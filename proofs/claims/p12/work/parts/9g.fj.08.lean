section
/-! ===== the reference: a flow begins ===== -/
noncomputable def fE6 (M : jm) : Nat → Int → Int
  | 0, _ => -1
  | n + 1, i => if M 627 i = 0 then i else fE6 M n (i + 1)
theorem fE6_s {M : jm} {i : Int} (h : i < 24) : fE6 M (24 - i).toNat i = if M 627 i = 0 then i else fE6 M (24 - (i + 1)).toNat (i + 1) := by
  obtain ⟨n, hn⟩ : ∃ n : Nat, i = 23 - n := ⟨(23 - i).toNat, by omega⟩
  subst hn
  rw [show (24 - (23 - (n : Int))).toNat = n + 1 by omega, show (24 - (23 - (n : Int) + 1)).toNat = n by omega]
  rfl
noncomputable def BF6 (T M : jm) (f : Int) : Prop := (M 627 f = 1 ∧ M 628 f = T 598 59 ∧ M 629 f = T 598 60 ∧ M 630 (2 * f) = T 598 61 ∧ M 630 (2 * f + 1) = T 598 62 ∧ M 631 (2 * f) = T 598 63 ∧ M 631 (2 * f + 1) = T 598 64 ∧ M 640 f = -1) ∧ (∀ j : Int, 2 * f ≤ j → j < 2 * f + 2 → M 632 j = 0 ∧ M 633 j = 0 ∧ M 634 j = 0 ∧ M 635 j = 0 ∧ M 636 j = 0 ∧ M 637 j = 0) ∧ (∀ j : Int, j ≠ f → M 627 j = T 627 j ∧ M 628 j = T 628 j ∧ M 629 j = T 629 j ∧ M 640 j = T 640 j) ∧ ∀ j : Int, (j < 2 * f ∨ 2 * f + 2 ≤ j) → M 630 j = T 630 j ∧ M 631 j = T 631 j ∧ M 632 j = T 632 j ∧ M 633 j = T 633 j ∧ M 634 j = T 634 j ∧ M 635 j = T 635 j ∧ M 636 j = T 636 j ∧ M 637 j = T 637 j
theorem BF6.m {T M : jm} {f s n a b p q : Int} (hs : T 598 59 = s) (hn : T 598 60 = n) (ha : T 598 61 = a) (hb : T 598 62 = b) (hp : T 598 63 = p) (hq : T 598 64 = q) (w : FG6 (ju (ju (ju (ju (ju (ju (ju (ju T 627 f 1) 628 f s) 629 f n) 630 (2 * f) a) 630 (2 * f + 1) b) 631 (2 * f) p) 631 (2 * f + 1) q) 640 f (-1)) M f (2 * f + 2)) (fr : ∀ (c : Nat) (i : Int), c ≠ 632 → c ≠ 633 → c ≠ 634 → c ≠ 635 → c ≠ 636 → c ≠ 637 → M c i = ju (ju (ju (ju (ju (ju (ju (ju T 627 f 1) 628 f s) 629 f n) 630 (2 * f) a) 630 (2 * f + 1) b) 631 (2 * f) p) 631 (2 * f + 1) q) 640 f (-1) c i) : BF6 T M f := by
  have g : ∀ (c : Nat) (i : Int), c ≠ 632 → c ≠ 633 → c ≠ 634 → c ≠ 635 → c ≠ 636 → c ≠ 637 → M c i = _ := fr
  refine ⟨⟨?_, ?_, ?_, ?_, ?_, ?_, ?_, ?_⟩, w.1, fun j hj => ⟨?_, ?_, ?_, ?_⟩, fun j hj => ⟨?_, ?_, ?_, ?_, ?_, ?_, ?_, ?_⟩⟩
  · rw [fr 627 f (by decide) (by decide) (by decide) (by decide) (by decide) (by decide)]; simp [ju]
  · rw [fr 628 f (by decide) (by decide) (by decide) (by decide) (by decide) (by decide)]; simp [ju, hs]
  · rw [fr 629 f (by decide) (by decide) (by decide) (by decide) (by decide) (by decide)]; simp [ju, hn]
  · rw [fr 630 _ (by decide) (by decide) (by decide) (by decide) (by decide) (by decide), ju_c _ _ (by decide), ju_c _ _ (by decide), ju_c _ _ (by decide), ju_i _ _ (by omega), ju_same, ha]
  · rw [fr 630 _ (by decide) (by decide) (by decide) (by decide) (by decide) (by decide), ju_c _ _ (by decide), ju_c _ _ (by decide), ju_c _ _ (by decide), ju_same, hb]
  · rw [fr 631 _ (by decide) (by decide) (by decide) (by decide) (by decide) (by decide), ju_c _ _ (by decide), ju_i _ _ (by omega), ju_same, hp]
  · rw [fr 631 _ (by decide) (by decide) (by decide) (by decide) (by decide) (by decide), ju_c _ _ (by decide), ju_same, hq]
  · rw [fr 640 _ (by decide) (by decide) (by decide) (by decide) (by decide) (by decide), ju_same]
  · rw [fr 627 j (by decide) (by decide) (by decide) (by decide) (by decide) (by decide)]; simp [ju, hj]
  · rw [fr 628 j (by decide) (by decide) (by decide) (by decide) (by decide) (by decide)]; simp [ju, hj]
  · rw [fr 629 j (by decide) (by decide) (by decide) (by decide) (by decide) (by decide)]; simp [ju, hj]
  · rw [fr 640 j (by decide) (by decide) (by decide) (by decide) (by decide) (by decide)]; simp [ju, hj]
  · rw [w.2 630 j hj, ju_c _ _ (by decide), ju_c _ _ (by decide), ju_c _ _ (by decide), ju_i _ _ (by omega), ju_i _ _ (by omega), ju_c _ _ (by decide), ju_c _ _ (by decide), ju_c _ _ (by decide)]
  · rw [w.2 631 j hj, ju_c _ _ (by decide), ju_i _ _ (by omega), ju_i _ _ (by omega), ju_c _ _ (by decide), ju_c _ _ (by decide), ju_c _ _ (by decide), ju_c _ _ (by decide), ju_c _ _ (by decide)]
  · rw [w.2 632 j hj]; simp [ju]
  · rw [w.2 633 j hj]; simp [ju]
  · rw [w.2 634 j hj]; simp [ju]
  · rw [w.2 635 j hj]; simp [ju]
  · rw [w.2 636 j hj]; simp [ju]
  · rw [w.2 637 j hj]; simp [ju]
end
