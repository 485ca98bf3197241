/-! ===== the reference: contracts, 38.ga ===== -/
def KT (M : jm) (o c f t k h x : Int) : Prop := (k = 2 ∨ k = 6) ∧ f + c ≤ 400 ∧ 8 ≤ M 604 h + M 605 h ∧ M 604 t ≤ 380 ∧ M 604 h ≤ 392 ∧ (k = 2 → (t = h ∧ M 605 h = 4 * (M 601 (400 * x + M 604 h) % 16) ∧ 20 ≤ M 605 h))
theorem KT.fr {M M' : jm} {o c f t k h x : Int} (q : KT M o c f t k h x) (e1 : ∀ i, M' 601 i = M 601 i) (e4 : ∀ i, M' 604 i = M 604 i) (e5 : ∀ i, M' 605 i = M 605 i) : KT M' o c f t k h x := by
  unfold KT at q ⊢
  rw [e4, e4, e5, e1]
  exact q
def HK (M : jm) (x h t k a : Int) : Prop := M 603 h = k ∧ M 604 h = a ∧ a + M 605 h ≤ M 600 x ∧ M 604 t ≤ 380 ∧ ((k = 2 ∧ a ≤ 380 ∧ t = h ∧ M 605 h = 4 * (M 601 (400 * x + M 604 h) % 16) ∧ 20 ≤ M 605 h) ∨ (k = 6 ∧ a ≤ 392 ∧ 8 ≤ M 605 h ∧ M 604 t ≤ 376))
theorem HK.mk' {M : jm} {x h t k a : Int} (hH : RH M) (hl : LK x M) (h0 : 0 ≤ h) (h1 : h < M 598 6) (e1 : M 603 h = k) (e2 : M 604 h = a) (hk : M 603 h = 2 ∧ M 604 h ≤ 380 ∨ M 603 h = 6 ∧ M 604 h ≤ 392 ∧ 1 ≤ h) (ht0 : t = -1 ∨ (0 ≤ t ∧ t < M 598 6 ∧ (M 603 t = 2 ∧ M 604 t ≤ 380 ∨ M 603 t = 3 ∧ M 604 t ≤ 376))) (hn : ∀ j : Int, 0 ≤ j → j < t → M 603 j ≠ 2 ∧ M 603 j ≠ 3) (hn2 : t = -1 → ∀ j : Int, 0 ≤ j → j < M 598 6 → M 603 j ≠ 2 ∧ M 603 j ≠ 3) (hp : ∃ s : Int, 0 ≤ s ∧ s < M 598 6 ∧ (M 603 s = 2 ∨ M 603 s = 3) ∧ (∀ j : Int, 0 ≤ j → j < s → M 603 j ≠ 2 ∧ M 603 j ≠ 3) ∧ ((M 603 h = 2 ∧ s = h) ∨ (M 603 h = 6 ∧ M 603 s = 3))) : 0 ≤ t ∧ HK M x h t k a := by
  obtain ⟨s, s0, s1, s2, s3, s4⟩ := hp
  have tn : t ≠ -1 := by
    intro z
    have z1 := hn2 z s s0 s1
    omega
  have e : t = s := by
    rcases Int.lt_trichotomy t s with y | y | y
    · exfalso
      have z2 := s3 t (by omega) y
      omega
    · exact y
    · exfalso
      have z2 := hn s s0 y
      omega
  subst e
  have l0 := hl h h0 h1
  have lk := lst_k (M 603 h)
  refine ⟨s0, e1, e2, by omega, by omega, ?_⟩
  rcases s4 with ⟨q1, q2⟩ | ⟨q1, q2⟩
  · exact Or.inl ⟨by omega, by omega, q2, l0.2.2 q1, by omega⟩
  · exact Or.inr ⟨by omega, by omega, by omega, by omega⟩
