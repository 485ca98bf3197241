section
/-! ===== the class: turn ===== -/
theorem HS2.p {T M : jm} {t : Nat} {f g : Int → Int} {N S y n v : Int} (h : HS2 T t f g N) (hk : kd t = 18) (hS : T t 7 = S) (k1 : kd S.toNat = 33) (w : PN T M (S.toNat + 1) y n v n 400) : HS2 M t f (ptn g y n v) N := HS2.o h hk hS k1 w.2 (PN.by8 w (byM h hS))
theorem HS2.m {T M : jm} {t : Nat} {f g g2 : Int → Int} {N S : Int} {p : Prop} (h : HS2 T t f g N) (hk : kd t = 18) (hS : T t 7 = S) (k1 : kd S.toNat = 33) (w : p ∧ BY8 M (S.toNat + 1) g2 ∧ OR1 T M (S.toNat + 1)) : HS2 M t f g2 N := HS2.o h hk hS k1 w.2.2 w.2.1
theorem FND.n {T E : jm} {f : Int → Int} {N C F : Int} (h : FND T E f N C F 1) (h5 : E 15 5 = 0) (hC : 0 ≤ C) : (0 ≤ E 15 3 ∧ E 15 3 < C) ∧ (0 ≤ E 15 4 ∧ E 15 4 < C) := by
  refine ⟨?_, (FND.k h h5).1⟩
  rcases h with h | h
  · exact absurd h.2.1 (by decide)
  · rw [h.2.2.2.1.1]
    have q := h.1.2.1
    rcases ntf_r (f := f) (N := N) (C := C) hC with u | u
    · exact absurd u q
    · exact u.1
noncomputable def RWQ (T M : jm) (f : Int → Int) (N C F : Int) (V : Nat) (S r : Int) : Prop := (FND T M f N C F 0 ∧ r = -4) ∨ ∃ E : jm, FND T E f N C F 1 ∧ ((E 15 5 ≠ 0 ∧ r = -4 ∧ M = E) ∨ (E 15 5 = 0 ∧ (feF E V 24 0 = -1 ∨ E (xe V (feF E V 24 0)) 13 = -1) ∧ r = -4 ∧ M = E) ∨ (E 15 5 = 0 ∧ (feF E V 24 0 ≠ -1 ∧ E (xe V (feF E V 24 0)) 13 ≠ -1) ∧ r = sdF E (xe V (feF E V 24 0)) 18 ∧ BY8 M (S.toNat + 1) (tuF f N C (E 15 3) (E 15 4) r (if r = 0 then E (xe V (feF E V 24 0)) 14 else E (xe V (feF E V 24 0) + 1) 0) (if r = 0 then E (xe V (feF E V 24 0)) 15 else E (xe V (feF E V 24 0) + 2) 0)) ∧ OR1 E M (S.toNat + 1)))
noncomputable def W_c_Flows_rewrite_x : List (Nat × Nat) := [(1, 1), (1, 2), (2, 1000), (7, 1000), (9, 3), (9, 4), (9, 5), (34, 1000)]
end
