section
theorem PC.g {M : jm} {G : Nat → Int → Int} (h : MP M G) (hg : PG G) : PC M := by
  intro i h0 hs
  have g0 := h.2 0 (by decide) 2
  rw [Nat.add_zero] at g0
  rw [g0] at hs
  rw [h.2 1 (by decide), h.2 2 (by decide)]
  exact hg i h0 hs
theorem PG.o {M : jm} (h : PC M) : PG (fun d k => M ((M 421 2).toNat + d) k) := fun i h0 hs => h i h0 hs
/-- jumps before place k of the rules that are read name chains, or they are refused -/
noncomputable def JR (M : jm) (k : Int) : Prop := M 413 0 ≠ 0 ∨ ∀ j : Int, 0 ≤ j → j < k → (M ((M 413 2).toNat + 1) j = 8 ∨ M ((M 413 2).toNat + 1) j = 9) → 0 ≤ M ((M 413 2).toNat + 2) j ∧ M ((M 413 2).toNat + 2) j ≤ 15
noncomputable def PR (M : jm) : Prop := JR M (M (M 413 2).toNat 2)
theorem JR.z (M : jm) : JR M 0 := Or.inr (fun j h0 h1 => by omega)
theorem JR.f {M : jm} {k : Int} (h : M 413 0 ≠ 0) : JR M k := Or.inl h
theorem PR.f {M : jm} (h : M 413 0 ≠ 0) : PR M := Or.inl h
theorem JR.e {M : jm} {i v u : Int} (h : JR M i) (e : M 413 2 = v) (e2 : M v.toNat 2 = u) (hu : u ≤ i) : PR M := by
  rcases h with h | h
  · exact Or.inl h
  · refine Or.inr (fun j h0 h1 => h j h0 ?_)
    rw [e, e2] at h1
    omega
theorem JR.n {M : jm} {i v o : Int} (h : JR M i) (e : M 413 2 = v) (ho : o = M (v.toNat + 1) i) (hn : o ≠ 8 ∧ o ≠ 9) : JR M (i + 1) := by
  rcases h with h | h
  · exact Or.inl h
  · refine Or.inr (fun j h0 h1 h2 => ?_)
    by_cases q : j = i
    · subst q
      rw [e, ← ho] at h2
      omega
    · exact h j h0 (by omega) h2
theorem JR.w {M : jm} {i v c : Int} (h : JR M i) (hC : CI M) (e : M 413 2 = v) (hc : 0 ≤ c ∧ c ≤ 15) : JR (ju M (v.toNat + 2) i c) (i + 1) := by
  have q1 := hC.p1
  rw [e] at q1
  have n1 : (413 : Nat) ≠ v.toNat + 2 := by omega
  rcases h with h | h
  · exact Or.inl (by rw [ju_c M c n1]; exact h)
  · refine Or.inr (fun j h0 h1 h2 => ?_)
    rw [ju_c M c n1, e] at h2 ⊢
    rw [ju_c M c (show v.toNat + 1 ≠ v.toNat + 2 by omega)] at h2
    by_cases q : j = i
    · subst q
      rw [ju_same]
      exact hc
    · rw [ju_i M c q]
      have r := h j h0 (by omega)
      rw [e] at r
      exact r h2
theorem PC.sw {M : jm} {u v : Int} (h : PR M) (hC : CI M) (h0 : M 413 0 = 0) (e : M 413 2 = v) : PC (ju (ju M 421 2 v) 413 2 u) := by
  have q1 := hC.p1
  rw [e] at q1
  have e1 : ju (ju M 421 2 v) 413 2 u 421 2 = v := by rw [ju_c _ u (by decide), ju_same]
  have g : ∀ d : Nat, d < 5 → ∀ k : Int, ju (ju M 421 2 v) 413 2 u (v.toNat + d) k = M (v.toNat + d) k := fun d hd k => by rw [ju_c _ u (by omega), ju_c M v (by omega)]
  intro i hi hs
  rw [e1] at hs ⊢
  have g0 := g 0 (by decide) 2
  rw [Nat.add_zero] at g0
  rw [g0] at hs
  rw [g 1 (by decide), g 2 (by decide)]
  rcases h with h | h
  · exact absurd h0 h
  · rw [e] at h
    exact h i hi hs
end
