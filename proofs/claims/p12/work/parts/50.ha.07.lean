section
theorem M0_RI : RI M0 := by
  intro a i ha
  rcases Nat.lt_or_ge a 688 with h | h
  · rcases Nat.lt_or_ge a 599 with h1 | h1
    · obtain rfl : a = 598 := by omega
      rw [xri_598]
      cases i with
      | ofNat j =>
        show ((xrf0 j).getD _).1 ≤ _ ∧ _ ≤ ((xrf0 j).getD _).2
        rcases Nat.lt_or_ge j 150 with hj | hj
        · have := List.all_eq_true.mp xrf0_z j (List.mem_range.mpr hj)
          exact of_decide_eq_true this
        · rw [xrf0_out hj, M0_in h, jp0_out (Nat.le_trans m0n_598 hj)]
          decide
      | negSucc n =>
        show ((xrf0 0).getD (-9223372036854775808, 9223372036854775807)).1 ≤ (0 : Int) ∧ (0 : Int) ≤ ((xrf0 0).getD (-9223372036854775808, 9223372036854775807)).2
        decide
    · rw [xri_rw0 h1]
      have q := List.all_eq_true.mp xrr0_z a (List.mem_range.mpr h)
      rw [jnb h1, Bool.false_or, Bool.and_eq_true] at q
      cases i with
      | ofNat j =>
        rw [M0_in h]
        have q2 := q.2
        rw [Bool.or_eq_true] at q2
        rcases q2 with q2 | q2
        · obtain ⟨b, hb, e⟩ := List.any_eq_true.mp q2
          have z := m0zl_ok b hb j
          rw [← Nat.eq_of_beq_eq_true e] at z
          rw [z]
          exact of_decide_eq_true q.1
        · rcases Nat.lt_or_ge j (m0n (xh0 a)) with hj | hj
          · exact of_decide_eq_true (List.all_eq_true.mp q2 j (List.mem_range.mpr hj))
          · rw [jp0_out hj]
            exact of_decide_eq_true q.1
      | negSucc n => exact of_decide_eq_true q.1
  · rw [xri_rw0 (by omega), xrr0_out h, M0_out h]
    decide
/-- a row of zeros -/
theorem M0_row {a n t : Nat} (h : a < 688) (e : xh0 a = .inl (t, n, .inl (fun _ => 0))) (i : Int) : M0 a i = 0 := by
  cases i with
  | ofNat j =>
    rw [M0_in h, e]
    show (bif Nat.blt j n then (0 : Int32).toInt else 0) = 0
    cases Nat.blt j n <;> rfl
  | negSucc k => rfl
theorem M0_rowL {a n t : Nat} (h : a < 688) (e : xh0 a = .inl (t, n, .inr (.inl (fun _ => 0)))) (i : Int) : M0 a i = 0 := by
  cases i with
  | ofNat j =>
    rw [M0_in h, e]
    show (bif Nat.blt j n then (0 : Int64).toInt else 0) = 0
    cases Nat.blt j n <;> rfl
  | negSucc k => rfl
theorem M0_603 (i : Int) : M0 603 i = 0 := M0_row (t := 0) (n := 12) (by decide) rfl i
theorem M0_604 (i : Int) : M0 604 i = 0 := M0_row (t := 0) (n := 12) (by decide) rfl i
theorem M0_605 (i : Int) : M0 605 i = 0 := M0_row (t := 0) (n := 12) (by decide) rfl i
theorem M0_606 (i : Int) : M0 606 i = 0 := M0_row (t := 2) (n := 8) (by decide) rfl i
theorem M0_629 (i : Int) : M0 629 i = 0 := M0_row (t := 0) (n := 24) (by decide) rfl i
theorem M0_685 (i : Int) : M0 685 i = 0 := M0_rowL (t := 1) (n := 1000) (by decide) rfl i
theorem M0_RH : RH M0 := by
  intro h
  rw [M0_603, M0_604, M0_605]
  decide
theorem M0_RF : RF M0 := by
  intro f _ h
  rw [M0_629] at h
  cases h
theorem M0_RG1 : RG1 M0 := by
  intro j _ h
  exact absurd (M0_606 j) h
theorem M0_MC : MC M0 := Or.inl (by decide +kernel)
end
