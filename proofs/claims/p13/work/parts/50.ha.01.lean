section
theorem xctA_is : ∃ h : Nat → ix_C, ix_iter xt0 (ix_run xt0 14 8) xm_law 2 (0, [(0, .ref 1000000)], [], xh_e) = some (.inl (8, xls1, [], (598, 29846, h))) ∧ (List.range 598).all (fun a => xceq (h a) (xh0 a)) = true := by
  have h0 := xctA_ok
  unfold xctA_chk at h0
  split at h0
  · rename_i pc ls st n k h hc
    simp only [Bool.and_eq_true, decide_eq_true_eq] at h0
    obtain ⟨a1, a2, a3, a4, a5, a6⟩ := h0
    have a1 := Nat.eq_of_beq_eq_true a1
    have a4 := Nat.eq_of_beq_eq_true a4
    have a5 := Nat.eq_of_beq_eq_true a5
    subst a1; subst a2; subst a3; subst a4; subst a5
    exact ⟨h, iy_iter_ok (iy_run_ok xt0 14 8) _ _ _ hc, xcq_all a6⟩
  · cases h0
end
section
/-! ===== the reference's constructor ===== -/
noncomputable def xctB : Option (ix_S ⊕ (Option Value × ix_H)) := iy_iter xt0 (iy_run xt0 14 8) xm_law 2 (8, xls1, [], (598, 29846, xh0))
end
