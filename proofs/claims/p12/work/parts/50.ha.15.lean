section
theorem xt_2_2 (i : Int) : i ≠ 2 ∨ xcv_2 i = 11 := by
  by_cases h : i = 2
  · subst h; exact Or.inr rfl
  · exact Or.inl h
theorem xt_2_6 (i : Int) : i ≠ 6 ∨ xcv_2 i = 4 := by
  by_cases h : i = 6
  · subst h; exact Or.inr rfl
  · exact Or.inl h
theorem xt_3_2 (i : Int) : i ≠ 2 ∨ xcv_3 i = 6 := by
  by_cases h : i = 2
  · subst h; exact Or.inr rfl
  · exact Or.inl h
theorem xt_3_6 (i : Int) : i ≠ 6 ∨ xcv_3 i = 29 := by
  by_cases h : i = 6
  · subst h; exact Or.inr rfl
  · exact Or.inl h
theorem xt_4_47 (i : Int) : i ≠ 47 ∨ xcv_4 i = 13 := by
  by_cases h : i = 47
  · subst h; exact Or.inr rfl
  · exact Or.inl h
theorem xt_4_123 (i : Int) : i ≠ 123 ∨ xcv_4 i = 13 := by
  by_cases h : i = 123
  · subst h; exact Or.inr rfl
  · exact Or.inl h
theorem xl6 (i : Int) : i ≠ 6 ∨ xcv_1 i = 8 := by
  by_cases h : i = 6
  · subst h; exact Or.inr rfl
  · exact Or.inl h
noncomputable def ci (K : Nat) (i : Int) : Int × Int := bif Nat.beq K 24 then (bif Nat.beq i.toNat 4 then ((0 : Int), (40 : Int)) else (-2147483648, 2147483647)) else bif cob K then (cio K i.toNat).getD (-9223372036854775808, 9223372036854775807) else (cir K).getD (-9223372036854775808, 9223372036854775807)
/-- the kind that a reference that changes must name (0: no such place) -/
noncomputable def cxk (K : Nat) (i : Int) : Nat := bif Nat.beq K 18 then (bif Nat.beq i.toNat 7 then 33 else 0) else bif Nat.beq K 22 then (bif Nat.beq i.toNat 2 then 47 else bif Nat.beq i.toNat 12 then 18 else 0) else bif Nat.beq K 44 then (bif Nat.beq i.toNat 2 then 47 else 0) else 0
/-- every cell of the class is within its interval -/
noncomputable def CI (M : jm) : Prop := (∀ (a : Nat) (i : Int), kd a ≠ 0 → (ci (kd a) i).1 ≤ M a i ∧ M a i ≤ (ci (kd a) i).2) ∧ ∀ (a : Nat) (i : Int), cxk (kd a) i ≠ 0 → kd (M a i).toNat = cxk (kd a) i
theorem CI.u {M : jm} (h : CI M) {a K : Nat} {i v : Int} (hk : kd a = K) (hv : (ci K i).1 ≤ v ∧ v ≤ (ci K i).2) (h0 : cxk K i = 0) : CI (ju M a i v) := by
  refine ⟨fun b k hb => ?_, fun b k hb => ?_⟩
  · by_cases hq : b = a ∧ k = i
    · obtain ⟨rfl, rfl⟩ := hq
      rw [ju_same, hk]
      exact hv
    · rw [ju_ne M v hq]
      exact h.1 b k hb
  · by_cases hq : b = a ∧ k = i
    · obtain ⟨rfl, rfl⟩ := hq
      rw [hk] at hb
      exact absurd h0 hb
    · rw [ju_ne M v hq]
      exact h.2 b k hb
theorem CI.r {M : jm} (h : CI M) {a K : Nat} (hk : kd a = K) (h0 : K ≠ 0) (i : Int) : (ci K i).1 ≤ M a i ∧ M a i ≤ (ci K i).2 := by
  subst hk
  exact h.1 a i h0
theorem CI.x {M : jm} (h : CI M) {a K K2 : Nat} (hk : kd a = K) (i : Int) (h2 : cxk K i = K2) (h0 : K2 ≠ 0) : kd (M a i).toNat = K2 := by
  subst hk
  subst h2
  exact h.2 a i h0
theorem jval_mut {a j : Nat} {ty : FieldType} {x : Int} (ht : jref ty = true) (h : xfx a j = none) : jval a j ty x = .ref x.toNat := by
  cases ty <;> first | (exact absurd ht (by decide)) | (unfold jval; rw [h]; rfl)
theorem km_18 : ∀ a, a < 598 → kd a = 18 → xfx a 7 = none := by decide +kernel
end
