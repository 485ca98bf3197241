section
/-! ===== the reference: contracts, 35.pe ===== -/
theorem TK.adv {M M' : jm} (h : TK M' < TK M) (h1 : 0 ≤ M 598 74) (h2 : 0 ≤ M' 598 74) : M 598 73 + min 1 (M' 598 74) ≤ M' 598 73 := by
  unfold TK at h
  omega
theorem RVq_1 {ib : Int} : (ib = 0 → RVq 1 ib = 4) ∧ (ib = 1 → RVq 1 ib = 2) ∧ RVq 0 ib = 0 := by
  refine ⟨fun e => ?_, fun e => ?_, ?_⟩
  · subst e; decide
  · subst e; decide
  · unfold RVq; rw [if_pos rfl]
noncomputable def HIX (P : Prop) : Prop := P
theorem HIX.i {P : Prop} (h : P) : HIX P := h
theorem HIX.e {P : Prop} (h : HIX P) : P := h
end
