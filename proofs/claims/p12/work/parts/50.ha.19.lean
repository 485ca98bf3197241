section
theorem LC.fr {W : List (Nat × Nat)} {T M : jm} {L : Int} (h : LC T L) (f : FR W T M) (h1 : ksep W [(27, 5)] = true) : LC M L := fun a ha => by
  rw [f.s h1 ha 5 (by decide) 5 (Or.inr rfl)]
  exact h a ha
theorem LC.u {M : jm} {L v : Int} {a : Nat} (h : LC M L) (hv : v ≤ L) : LC (ju M a 5 v) L := fun b hb => by
  by_cases hq : b = a
  · subst hq
    rw [ju_same]
    exact hv
  · rw [ju_c M v hq]
    exact h b hb
theorem LC.n {M : jm} {L v i : Int} {a K : Nat} (h : LC M L) (hk : kd a = K) (h0 : K ≠ 27) : LC (ju M a i v) L := fun b hb => by
  rw [ju_c M v (kd_ne (by rw [hb, hk]; exact fun q => h0 q.symm))]
  exact h b hb
theorem LC.m {M : jm} {L v i : Int} {a : Nat} (h : LC M L) (h0 : (5 : Int) ≠ i) : LC (ju M a i v) L := fun b hb => by
  rw [ju_i M v h0]
  exact h b hb
/-- jumps of the rules that are in force name chains -/
noncomputable def PC (M : jm) : Prop := ∀ i : Int, 0 ≤ i → i < M (M 421 2).toNat 2 → (M ((M 421 2).toNat + 1) i = 8 ∨ M ((M 421 2).toNat + 1) i = 9) → 0 ≤ M ((M 421 2).toNat + 2) i ∧ M ((M 421 2).toNat + 2) i ≤ 15
theorem PC.fr {W : List (Nat × Nat)} {T M : jm} (h : PC T) (hC : CI T) (f : FR W T M) (h1 : ksep W [(22, 2), (47, 2), (51, 1000), (48, 1000)] = true) : PC M := by
  have e : M 421 2 = T 421 2 := f.s h1 (show kd 421 = 22 from rfl) 2 (by decide) 2 (Or.inr rfl)
  have k : kd (T 421 2).toNat = 47 := CI.x hC (show kd 421 = 22 from rfl) 2 rfl (by decide)
  have q1 := (kf_47_0 k).2
  have q2 := (kf_47_1 k).2
  intro i h0 hs
  rw [e] at hs ⊢
  rw [f.s h1 k 2 (by decide) 2 (Or.inr rfl)] at hs
  rw [f.s h1 q1 1000 (by decide) i (Or.inl rfl), f.s h1 q2 1000 (by decide) i (Or.inl rfl)]
  exact h i h0 hs
theorem PC.at {M : jm} (h : PC M) {v i o a : Int} (e : M 421 2 = v) (ho : o = 63 ∨ ((0 ≤ i ∧ i < M v.toNat 2) ∧ o = M (v.toNat + 1) i)) (ha : a = 0 ∨ ((0 ≤ i ∧ i < M v.toNat 2) ∧ a = M (v.toNat + 2) i)) : (o ≠ 8 ∧ o ≠ 9) ∨ (0 ≤ a ∧ a ≤ 15) := by
  rcases ho with ho | ⟨h1, h2⟩
  · left; omega
  · rcases ha with ha | ⟨h3, h4⟩
    · right; omega
    · have q := h i h1.1 (by rw [e]; exact h1.2)
      rw [e, ← h2, ← h4] at q
      by_cases h8 : o = 8 ∨ o = 9
      · exact Or.inr (q h8)
      · left; omega
theorem pk0 : ∀ a, a < 598 → kd a = 47 → a = 414 ∨ a = 429 := by decide +kernel
theorem pk {a : Nat} (h : kd a = 47) : a = 414 ∨ a = 429 := pk0 a (kd_lt (by rw [h]; decide)) h
theorem pk5 : ∀ d, d < 5 → (47 ≤ kd (414 + d) ∧ kd (414 + d) ≤ 51) ∧ 47 ≤ kd (429 + d) ∧ kd (429 + d) ≤ 51 := by decide +kernel
theorem pkd {a : Nat} (h : a = 414 ∨ a = 429) {d : Nat} (hd : d < 5) : 47 ≤ kd (a + d) ∧ kd (a + d) ≤ 51 := by
  rcases h with rfl | rfl
  · exact (pk5 d hd).1
  · exact (pk5 d hd).2
/-- the rules that are in force are G, and are not those that are being read -/
noncomputable def MP (M : jm) (G : Nat → Int → Int) : Prop := M 413 2 ≠ M 421 2 ∧ ∀ d : Nat, d < 5 → ∀ k : Int, M ((M 421 2).toNat + d) k = G d k
theorem CI.p1 {M : jm} (h : CI M) : (M 413 2).toNat = 414 ∨ (M 413 2).toNat = 429 := pk (CI.x h (show kd 413 = 44 from rfl) 2 rfl (by decide))
end
