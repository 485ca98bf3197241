section
theorem m0r_ok {a : Nat} (ha : a < 688) (h : m0r a = true) : xceq (xh0 a) (jh M0 a) = true := by
  have hM : ∀ j : Nat, M0 a ((j : Nat) : Int) = jp0 (xh0 a) j := fun j => by
    show (bif Nat.blt a 688 then jp0 (xh0 a) j else 0) = _
    rw [Nat.blt_eq.mpr ha]
    rfl
  unfold m0r at h
  split at h
  · rename_i t n f hx
    rw [Bool.and_eq_true, Bool.or_eq_true, Bool.and_eq_true] at h
    obtain ⟨h1, h2, h3⟩ := h
    have e2 := Nat.eq_of_beq_eq_true h2
    have e3 := Nat.eq_of_beq_eq_true h3
    have hj : jh M0 a = .inl (t, n, .inl (fun j => Int32.ofInt (M0 a ((j : Nat) : Int)))) := by
      unfold jh jcell
      rw [e2, e3]
      rcases h1 with h1 | h1
      · have e1 := Nat.eq_of_beq_eq_true h1
        subst e1
        rfl
      · have e1 := Nat.eq_of_beq_eq_true h1
        subst e1
        rfl
    rw [hj, hx]
    show (Nat.beq t t && (Nat.beq n n && (List.range n).all (fun j => decide (f j = Int32.ofInt (M0 a ((j : Nat) : Int)))))) = true
    rw [Bool.and_eq_true, Bool.and_eq_true]
    refine ⟨Nat.beq_refl t, Nat.beq_refl n, List.all_eq_true.mpr (fun j hj2 => decide_eq_true ?_)⟩
    have hl := List.mem_range.mp hj2
    rw [hM j, hx]
    show f j = Int32.ofInt (bif Nat.blt j n then (f j).toInt else 0)
    rw [Nat.blt_eq.mpr hl]
    exact (Int32.ofInt_toInt _).symm
  · rename_i t n f hx
    rw [Bool.and_eq_true, Bool.and_eq_true] at h
    obtain ⟨h1, h2, h3⟩ := h
    have e2 := Nat.eq_of_beq_eq_true h2
    have e3 := Nat.eq_of_beq_eq_true h3
    have hj : jh M0 a = .inl (t, n, .inr (.inl (fun j => Int64.ofInt (M0 a ((j : Nat) : Int))))) := by
      unfold jh jcell
      rw [e2, e3]
      have e1 := Nat.eq_of_beq_eq_true h1
      subst e1
      rfl
    rw [hj, hx]
    show (Nat.beq t t && (Nat.beq n n && (List.range n).all (fun j => decide (f j = Int64.ofInt (M0 a ((j : Nat) : Int)))))) = true
    rw [Bool.and_eq_true, Bool.and_eq_true]
    refine ⟨Nat.beq_refl t, Nat.beq_refl n, List.all_eq_true.mpr (fun j hj2 => decide_eq_true ?_)⟩
    have hl := List.mem_range.mp hj2
    rw [hM j, hx]
    show f j = Int64.ofInt (bif Nat.blt j n then (f j).toInt else 0)
    rw [Nat.blt_eq.mpr hl]
    exact (Int64.ofInt_toInt _).symm
  · cases h
end
