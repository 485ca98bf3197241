/-! ===== the reference: contracts, 37.mg ===== -/
theorem op_tab (o : Int) : (o = 0 → ndo o = 0 ∧ dlo o = 0) ∧ (o = 1 → ndo o = 1 ∧ dlo o = -1) ∧ (o = 2 → ndo o = 0 ∧ dlo o = 0) ∧ (o = 3 → ndo o = 0 ∧ dlo o = 0) ∧ (4 ≤ o ∧ o ≤ 6 → ndo o = 0 ∧ dlo o = 1) ∧ (o = 7 ∨ o = 8 → ndo o = 1 ∧ dlo o = -1) ∧ (9 ≤ o ∧ o ≤ 11 → ndo o = 1 ∧ dlo o = 0) ∧ (137 ≤ o ∧ o ≤ 162 → ndo o = 2 ∧ dlo o = -1) ∧ (350 ≤ o ∧ o < 365 → ndo o = 0 ∧ dlo o = 1) ∧ (365 ≤ o ∧ o ≤ 370 → ndo o = argn (o - 340) ∧ dlo o = 1 - argn (o - 340)) ∧ (24 ≤ o ∧ o ≤ 29 → ndo o = 0 ∧ dlo o = 0) ∧ (30 ≤ o ∧ o ≤ 38 → dlo o = -(ndo o)) := by
  have n6 : ¬ (o = 1 ∨ (7 ≤ o ∧ o ≤ 11)) → ¬ o < 39 → ndo o = (if o < 340 then 2 else if o < 365 then 0 else argn (o - 340)) := fun a b => by
    unfold ndo
    rw [if_neg a, if_neg (by omega), if_neg (by omega), if_neg (by omega), if_neg (by omega), if_neg b]
  have d4 : ¬ o < 39 → dlo o = (if o < 340 then -1 else 1 - ndo o) := fun b => by
    unfold dlo
    rw [if_neg (by omega), if_neg (by omega), if_neg (by omega), if_neg b]
  refine ⟨?_, ?_, ?_, ?_, ?_, ?_, ?_, ?_, ?_, ?_, ?_, ?_⟩
  · rintro rfl
    decide
  · rintro rfl
    decide
  · rintro rfl
    decide
  · rintro rfl
    decide
  · intro h
    rcases (show o = 4 ∨ o = 5 ∨ o = 6 by omega) with rfl | rfl | rfl <;> decide
  · rintro (rfl | rfl) <;> decide
  · intro h
    rcases (show o = 9 ∨ o = 10 ∨ o = 11 by omega) with rfl | rfl | rfl <;> decide
  · intro h
    refine ⟨(n6 (by omega) (by omega)).trans (if_pos (by omega)), (d4 (by omega)).trans (if_pos (by omega))⟩
  · intro h
    have hn : ndo o = 0 := (n6 (by omega) (by omega)).trans ((if_neg (by omega)).trans (if_pos (by omega)))
    have e : dlo o = 1 - ndo o := (d4 (by omega)).trans (if_neg (by omega))
    exact ⟨hn, by omega⟩
  · intro h
    have hn : ndo o = argn (o - 340) := (n6 (by omega) (by omega)).trans ((if_neg (by omega)).trans (if_neg (by omega)))
    have e : dlo o = 1 - ndo o := (d4 (by omega)).trans (if_neg (by omega))
    exact ⟨hn, by rw [e, hn]⟩
  · intro h
    refine ⟨?_, ?_⟩
    · unfold ndo
      rw [if_neg (by omega), if_pos (by omega)]
    · unfold dlo
      rw [if_neg (by omega), if_neg (by omega), if_pos (by omega)]
  · intro h
    unfold dlo
    rw [if_neg (by omega), if_neg (by omega), if_neg (by omega), if_pos (by omega)]
noncomputable def cr (co : Int → Int) (p : Int) : Int := if co p = 28 ∨ co p = 29 then 1 else 0
theorem cr_le (co : Int → Int) (p : Int) : 0 ≤ cr co p ∧ cr co p ≤ 1 := by
  unfold cr
  split <;> omega
theorem MX.cr0 {M : jm} {ht : Int → Int} {n e : Int} (h : MX M ht n) (h0 : 0 ≤ e) (h1 : e < n) (h2 : M 654 (e - 1) ≠ 0) : cr (M 654) e = 0 := by
  unfold cr
  rw [if_neg]
  intro q
  obtain ⟨_, _, _, d⟩ := h.2.2.1 e h0 h1
  exact h2 (d q).2.1
theorem REr.cr0 {co ht : Int → Int} {n e : Int} (h : REr co ht n e) : cr co e = 0 := by
  obtain ⟨_, _, _, a, b⟩ := h
  unfold cr
  rw [if_neg (by omega)]
theorem MX.ren {M : jm} {ht : Int → Int} {n P : Int} (h : MX M ht n) (h0 : 0 ≤ P) (h1 : P + 1 < n) (h2 : M 654 P ≠ 0) (h3 : ht (P + 1) = 0) : REr (M 654) ht n (P + 1) := by
  obtain ⟨_, _, _, d⟩ := h.2.2.1 (P + 1) (by omega) h1
  rw [show P + 1 - 1 = P by omega] at d
  exact ⟨by omega, h1, h3, fun q => h2 (d (Or.inl q)).2.1, fun q => h2 (d (Or.inr q)).2.1⟩
noncomputable def mu (M : jm) : Int := 8804 * (300 - M 598 143) + 2201 * (phi M + 4 * cr (M 654) (M 598 132)) + (2200 - M 598 132)
theorem mu.eq {M : jm} {st P f c : Int} (e1 : M 598 143 = st) (e2 : phi M = f) (e3 : M 598 132 = P) (e4 : cr (M 654) P = c) : mu M = 8804 * (300 - st) + 2201 * (f + 4 * c) + (2200 - P) := by
  unfold mu
  rw [e1, e2, e3, e4]
