section
/-! ===== the class: a gathering keeps headers, takes a piece in ===== -/
noncomputable def KPH (T M : jm) (t : Nat) (f : Int → Int) (N C y : Int) : Prop := (M t 11 = enf f N C y ∧ M t 12 = pA f N C (ntf f N C) ∧ ((T t 1 = 6 ∧ M t 13 = pA f N C (y - 1) + (if kA f N C (y - 1) = 3 then 4 else 0)) ∨ (T t 1 ≠ 6 ∧ M t 13 = T t 13))) ∧ (∀ k : Int, 0 ≤ k → k < enf f N C y → M (t + 2) k = f k) ∧ (∀ k : Int, k ≠ 11 → k ≠ 12 → k ≠ 13 → M t k = T t k) ∧ ∀ (b : Nat) (k : Int), b ≠ t → b ≠ t + 2 → M b k = T b k
theorem hst_y {f : Int → Int} {N : Int} (hf : ∀ i : Int, 0 ≤ i → i < 400 → 0 ≤ f i ∧ f i ≤ 255) (hN : N ≤ 400) : ∀ n : Nat, (∀ i : Int, 0 ≤ i → i < n → hok f N i) → 0 ≤ hY f N (n : Int) := by
  intro n
  induction n with
  | zero => intro _; exact Int.le_refl _
  | succ n ih =>
    intro h
    have h1 := ih (fun i h0 h1 => h i h0 (by omega))
    have s := (hst_s (f := f) (N := N) (i := (n : Int)) (by omega)).2
    have hl := hok_l (h n (by omega) (by omega)) hf hN
    rw [show ((n + 1 : Nat) : Int) = (n : Int) + 1 by omega, s]
    omega
theorem HS.y {M : jm} {t : Nat} {f : Int → Int} {N C x : Int} (h : HS M t f N) (hC : M t 3 = C) (hx : 0 ≤ x ∧ x < C) : 0 ≤ hY f N x ∧ hY f N x + lst (hX f N x) ≤ N ∧ hY f N x + hZ f N x ≤ N ∧ 0 ≤ hZ f N x ∧ ¬ ((hX f N x = 2 ∨ hX f N x = 8) ∧ hZ f N x < 20) ∧ (hX f N x ≠ 6 ∨ hZ f N x = 8) := by
  have hf : ∀ i : Int, 0 ≤ i → i < 400 → 0 ≤ f i ∧ f i ≤ 255 := fun i h0 h1 => (h.1 i h0 h1).2
  have hr := h.2.2.2.2.1 x hx.1 (by omega)
  have hl := hok_l hr.1 hf h.2.2.1.2
  have hy := hst_y hf h.2.2.1.2 x.toNat (fun i h0 h1 => (h.2.2.2.2.1 i h0 (by omega)).1)
  rw [Int.toNat_of_nonneg hx.1] at hy
  have h6 := (hsZ_r hf h.2.2.1.2 (hsF_z hr.1.2).2.1).2
  exact ⟨hy, hl.1, hl.2.1, hl.2.2.1, hl.2.2.2, h6⟩
noncomputable def W_c_Gathering_keepHeaders_x : List (Nat × Nat) := [(15, 11), (15, 12), (15, 13), (16, 1000)]
end
