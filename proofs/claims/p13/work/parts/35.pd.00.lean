/-! ===== the reference: contracts, 35.pd ===== -/
noncomputable def BT (M : jm) : Prop := M 598 80 ≠ 0 ∧ M 598 90 ≤ 1900
noncomputable def DJ (M : jm) (w : Int) : Prop := SS M (ndo (20 + w)) (0 + 2 + 2) ∧ M 598 96 ≤ M 598 89 ∧ ((w ≠ 8 ∧ w ≠ 9 ∧ AK M) ∨ ((w = 8 ∨ w = 9) ∧ AK2 M ∧ 1 ≤ M 598 90 ∧ M 659 (M 598 90 - 1) = 0))
theorem LB.emit {M : jm} {c op a : Int} (h : op ≠ 0) : LB (ju (ju (ju M 659 c op) 660 c a) 598 90 (c + 1)) := by
  refine Or.inr ?_
  rw [ju_same, show c + 1 - 1 = c by omega, ju_c _ _ (by decide), ju_c _ _ (by decide), ju_same]
  exact h
theorem LB.fr {M M' : jm} (h : LB M) (F : ∀ i : Int, M' 659 i = M 659 i) (g : M' 598 90 = M 598 90) : LB M' := by
  unfold LB at h ⊢
  rw [g, F]
  exact h
theorem dl_deed {w : Int} (h : 4 ≤ w ∧ w ≤ 18) : ndo (20 + w) + dlo (20 + w) = 0 ∧ 0 ≤ ndo (20 + w) ∧ ndo (20 + w) ≤ 5 ∧ (w ≤ 9 → ndo (20 + w) = 0) := by
  rcases (show w = 4 ∨ w = 5 ∨ w = 6 ∨ w = 7 ∨ w = 8 ∨ w = 9 ∨ w = 10 ∨ w = 11 ∨ w = 12 ∨ w = 13 ∨ w = 14 ∨ w = 15 ∨ w = 16 ∨ w = 17 ∨ w = 18 by omega) with r | r | r | r | r | r | r | r | r | r | r | r | r | r | r <;> subst r <;> decide
theorem XS.step {M : jm} {k : Int} (h : XS M 0 (k + 2) 0 0 (-1)) {c : Int} (e : M 598 90 = c) (hk : 0 ≤ k) (h8 : M 598 100 - M 598 107 - 0 ≤ 13) : XS (ju (ju (ju M 659 c 0) 660 c 0) 598 90 (c + 1)) 0 k 0 1 (-1) := XS.emit h e 0 0 k (by unfold vop; omega) (by unfold exo; omega) (by decide) (by unfold jpo; omega) (by omega) (by omega) hk h8 0 (by decide) (by omega)
theorem XS.jin {M : jm} {k z : Int} (h : XS M 1 (k + 2) 0 z (-1)) {c : Int} (e : M 598 90 = c) (hk : 0 ≤ k) (h8 : M 598 100 - M 598 107 - 0 ≤ 13) : XS (ju (ju (ju M 659 c 1) 660 c 0) 598 90 (c + 1)) 0 k 0 1 c := XS.emit (XS.setx h c) e 1 0 k (by unfold vop; omega) (by unfold exo; omega) (by decide) (fun _ => rfl) (by omega) (by omega) hk h8 0 (by decide) (by omega)
theorem XS.fin {M : jm} {k z : Int} (h : XS M 0 (k + 2) 0 z (-1)) {c : Int} (e : M 598 90 = c) (hk : 0 ≤ k) (h8 : M 598 100 - M 598 107 - 0 ≤ 13) : XS (ju (ju (ju M 659 c 3) 660 c 0) 598 90 (c + 1)) 0 k 0 1 (-1) := XS.emit h e 3 0 k (by unfold vop; omega) (by unfold exo; omega) (by decide) (by unfold jpo; omega) (by omega) (by omega) hk h8 0 (by decide) (by omega)
theorem XS.deed {M : jm} {k w z : Int} (h : XS M (ndo (20 + w)) (k + 2) 0 z (-1)) {c : Int} (e : M 598 90 = c) (hw : 4 ≤ w ∧ w ≤ 18) (hk : 0 ≤ k) (h8 : M 598 100 - M 598 107 - 0 ≤ 13) (h6 : w = 8 ∨ w = 9 → 1 ≤ c ∧ M 659 (c - 1) = 0 ∧ 0 < M 598 88) : XS (ju (ju (ju M 659 c (20 + w)) 660 c 0) 598 90 (c + 1)) 0 k 0 1 (-1) := by
  have dl := dl_deed hw
  exact XS.emit h e (20 + w) 0 k (by unfold vop; omega) (by unfold exo; omega) rfl (by unfold jpo; omega) (fun q => by have := h6 (by omega); omega) (by omega) hk h8 0 (by omega) (by omega)
