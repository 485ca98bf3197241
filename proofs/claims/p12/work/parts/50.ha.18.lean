section
/-- the headers that were read end within 400 bytes -/
noncomputable def HC (M : jm) (t : Nat) : Prop := ∀ h : Int, 0 ≤ h → h < M t 3 → (0 ≤ M (t + 2) h + M (t + 3) h ∧ M (t + 2) h + M (t + 3) h ≤ 400) ∧ ((M (t + 1) h ≠ 2 ∧ M (t + 1) h ≠ 6) ∨ 8 ≤ M (t + 2) h + M (t + 3) h)
theorem HC.z {M : jm} {t : Nat} (h : M t 3 = 0) : HC M t := fun x h0 h1 => by omega
theorem HC.fr {W : List (Nat × Nat)} {T M : jm} {t : Nat} (h : HC T t) (f : FR W T M) (k : kd t = 18) (h1 : ksep W [(18, 3), (19, 1000), (20, 1000), (21, 1000)] = true) : HC M t := by
  intro x h0 hx
  have q1 := (kf_18_0 k).2
  have q2 := (kf_18_1 k).2
  have q3 := (kf_18_2 k).2
  rw [f.s h1 k 3 (by decide) 3 (Or.inr rfl)] at hx
  rw [f.s h1 q1 1000 (by decide) x (Or.inl rfl), f.s h1 q2 1000 (by decide) x (Or.inl rfl), f.s h1 q3 1000 (by decide) x (Or.inl rfl)]
  exact h x h0 hx
theorem HC.st {M : jm} {t : Nat} {c k a s : Int} (h : HC M t) (hk : kd t = 18) (hc : M t 3 = c) (h0 : 0 ≤ a + s ∧ a + s ≤ 400) (h6 : (k ≠ 2 ∧ k ≠ 6) ∨ 8 ≤ a + s) (hc0 : 0 ≤ c) : HC (ju (ju (ju (ju M (t + 1) c k) (t + 2) c a) (t + 3) c s) t 3 (c + 1)) t := by
  have n1 : t ≠ t + 1 := by omega
  have n2 : t ≠ t + 2 := by omega
  have n3 : t ≠ t + 3 := by omega
  intro x hx0 hx
  rw [ju_same] at hx
  by_cases e : x = c
  · subst e
    simp only [ju, show t + 1 ≠ t by omega, show t + 2 ≠ t by omega, show t + 3 ≠ t by omega, false_and, and_false, if_false, if_true, and_self, true_and, show t + 1 ≠ t + 3 by omega, show t + 1 ≠ t + 2 by omega, show t + 2 ≠ t + 3 by omega]
    refine ⟨h0, ?_⟩
    rcases h6 with q | q
    · exact Or.inl q
    · exact Or.inr q
  · simp only [ju, e, and_false, if_false, show t + 1 ≠ t by omega, show t + 2 ≠ t by omega, show t + 3 ≠ t by omega, false_and]
    exact h x hx0 (by omega)
/-- what is kept of a gathering has 8 bytes at least -/
noncomputable def GC (M : jm) : Prop := ∀ a : Nat, kd a = 15 → M a 11 = -1 ∨ 8 ≤ M a 11
theorem GC.fr {W : List (Nat × Nat)} {T M : jm} (h : GC T) (f : FR W T M) (h1 : ksep W [(15, 11)] = true) : GC M := fun a ha => by
  rw [f.s h1 ha 11 (by decide) 11 (Or.inr rfl)]
  exact h a ha
theorem GC.u {M : jm} {v : Int} {a : Nat} (h : GC M) (hv : v = -1 ∨ 8 ≤ v) : GC (ju M a 11 v) := fun b hb => by
  by_cases hq : b = a
  · subst hq
    rw [ju_same]
    exact hv
  · rw [ju_c M v hq]
    exact h b hb
theorem GC.n {M : jm} {v i : Int} {a K : Nat} (h : GC M) (hk : kd a = K) (h0 : K ≠ 15) : GC (ju M a i v) := fun b hb => by
  rw [ju_c M v (kd_ne (by rw [hb, hk]; exact fun q => h0 q.symm))]
  exact h b hb
theorem GC.m {M : jm} {v i : Int} {a : Nat} (h : GC M) (h0 : (11 : Int) ≠ i) : GC (ju M a i v) := fun b hb => by
  rw [ju_i M v h0]
  exact h b hb
/-- the logs are at most so long -/
noncomputable def LC (M : jm) (L : Int) : Prop := ∀ a : Nat, kd a = 27 → M a 5 ≤ L
theorem LC.le {M : jm} {L L' : Int} (h : LC M L) (hl : L ≤ L') : LC M L' := fun a ha => Int.le_trans (h a ha) hl
end
