section
theorem CI.p2 {M : jm} (h : CI M) : (M 421 2).toNat = 414 ∨ (M 421 2).toNat = 429 := pk (CI.x h (show kd 421 = 22 from rfl) 2 rfl (by decide))
theorem MP.w {M : jm} {G : Nat → Int → Int} (h : MP M G) (hC : CI M) {v i x : Int} {a : Nat} (e : M 413 2 = v) (ha : v.toNat ≤ a ∧ a < v.toNat + 5) : MP (ju M a i x) G := by
  have q1 := hC.p1
  have q2 := hC.p2
  have n1 : (413 : Nat) ≠ a := by rw [← e] at ha; omega
  have n2 : (421 : Nat) ≠ a := by rw [← e] at ha; omega
  have hne := h.1
  refine ⟨by rw [ju_c M x n1, ju_c M x n2]; exact h.1, fun d hd k => ?_⟩
  rw [ju_c M x n2]
  rw [ju_c M x (by rw [← e] at ha; omega)]
  exact h.2 d hd k
theorem MP.n {M : jm} {G : Nat → Int → Int} (h : MP M G) (hC : CI M) {i x : Int} {a K : Nat} (hk : kd a = K) (h0 : K < 47 ∨ 51 < K) (h2 : i ≠ 2 ∨ (K ≠ 44 ∧ K ≠ 22)) : MP (ju M a i x) G := by
  have q2 := hC.p2
  have e1 : ju M a i x 413 2 = M 413 2 := ju_ne M x (fun q => by
    rcases h2 with r | r
    · exact r q.2.symm
    · exact r.1 (by rw [← hk, ← q.1]; rfl))
  have e2 : ju M a i x 421 2 = M 421 2 := ju_ne M x (fun q => by
    rcases h2 with r | r
    · exact r q.2.symm
    · exact r.2 (by rw [← hk, ← q.1]; rfl))
  refine ⟨by rw [e1, e2]; exact h.1, fun d hd k => ?_⟩
  rw [e2, ju_c M x (fun q => by
    have r := pkd q2 hd
    rw [q, hk] at r
    omega)]
  exact h.2 d hd k
theorem MP.fr {W : List (Nat × Nat)} {T M : jm} {G : Nat → Int → Int} (h : MP T G) (hC : CI T) (f : FR W T M) (h1 : ksep W [(44, 2), (22, 2), (47, 1000), (48, 1000), (49, 1000), (50, 1000), (51, 1000)] = true) : MP M G := by
  have q2 := hC.p2
  have e1 : M 413 2 = T 413 2 := f.s h1 (show kd 413 = 44 from rfl) 2 (by decide) 2 (Or.inr rfl)
  have e2 : M 421 2 = T 421 2 := f.s h1 (show kd 421 = 22 from rfl) 2 (by decide) 2 (Or.inr rfl)
  refine ⟨by rw [e1, e2]; exact h.1, fun d hd k => ?_⟩
  rw [e2]
  have r := pkd q2 hd
  have e3 : M ((T 421 2).toNat + d) k = T ((T 421 2).toNat + d) k := by
    obtain ⟨K, hK⟩ : ∃ K, kd ((T 421 2).toNat + d) = K := ⟨_, rfl⟩
    rw [hK] at r
    refine f.s h1 hK 1000 ?_ k (Or.inl rfl)
    rcases (show K = 47 ∨ K = 48 ∨ K = 49 ∨ K = 50 ∨ K = 51 by omega) with rfl | rfl | rfl | rfl | rfl <;> decide
  rw [e3]
  exact h.2 d hd k
theorem PC.mp {T M : jm} {G : Nat → Int → Int} (h : PC T) (h1 : MP T G) (h2 : MP M G) (e : M 421 2 = T 421 2) : PC M := by
  have g : ∀ d : Nat, d < 5 → ∀ k : Int, M ((T 421 2).toNat + d) k = T ((T 421 2).toNat + d) k := fun d hd k => by
    have := h2.2 d hd k
    rw [e] at this
    rw [this, h1.2 d hd k]
  intro i h0 hs
  rw [e] at hs ⊢
  have g0 := g 0 (by decide) 2
  rw [Nat.add_zero] at g0
  rw [g0] at hs
  rw [g 1 (by decide), g 2 (by decide)]
  exact h i h0 hs
/-- rules whose jumps name chains -/
noncomputable def PG (G : Nat → Int → Int) : Prop := ∀ i : Int, 0 ≤ i → i < G 0 2 → (G 1 i = 8 ∨ G 1 i = 9) → 0 ≤ G 2 i ∧ G 2 i ≤ 15
end
