section
theorem kn_18_7 {a : Nat} (h : kd a = 18) : xfx a 7 = none := km_18 a (kd_lt (by rw [h]; decide)) h
theorem ci_rep {i : Int} (h0 : 0 ≤ i) (h : i ≠ 4) : ci 24 i = (-2147483648, 2147483647) := by
  have e : Nat.beq i.toNat 4 = false := by
    cases hb : Nat.beq i.toNat 4 with
    | false => rfl
    | true => have := Nat.eq_of_beq_eq_true hb; omega
  unfold ci
  rw [e]
  rfl
theorem ci_rd (i : Int) : -2147483648 ≤ (ci 24 i).1 ∧ (ci 24 i).2 ≤ 2147483647 := by
  unfold ci
  show -2147483648 ≤ (bif Nat.beq i.toNat 4 then ((0 : Int), (40 : Int)) else (-2147483648, 2147483647)).1 ∧ (bif Nat.beq i.toNat 4 then ((0 : Int), (40 : Int)) else (-2147483648, 2147483647)).2 ≤ 2147483647
  cases Nat.beq i.toNat 4 <;> decide
theorem j_fz {v : Int} (h : 0 ≤ v ∧ v ≤ 1) : fits FieldType.boolean (Value.int (Int32.ofInt v)) = true := by
  rcases (show v = 0 ∨ v = 1 by omega) with rfl | rfl <;> rfl
/-- a reference that changes is written -/
theorem CI.w {M : jm} (h : CI M) {a K : Nat} {i v : Int} (hk : kd a = K) (hv : (ci K i).1 ≤ v ∧ v ≤ (ci K i).2) (h0 : kd v.toNat = cxk K i) : CI (ju M a i v) := by
  refine ⟨fun b k hb => ?_, fun b k hb => ?_⟩
  · by_cases hq : b = a ∧ k = i
    · obtain ⟨rfl, rfl⟩ := hq
      rw [ju_same, hk]
      exact hv
    · rw [ju_ne M v hq]
      exact h.1 b k hb
  · by_cases hq : b = a ∧ k = i
    · obtain ⟨rfl, rfl⟩ := hq
      rw [ju_same, hk]
      exact h0
    · rw [ju_ne M v hq]
      exact h.2 b k hb
theorem CI.cpy {M : jm} (h : CI M) {a d Ka Kd : Nat} {sp dp n : Int} (ha : kd a = Ka) (hd : kd d = Kd) (h0 : Ka ≠ 0) (hv : ∀ i j : Int, (ci Kd j).1 ≤ (ci Ka i).1 ∧ (ci Ka i).2 ≤ (ci Kd j).2) (hx : ∀ i : Int, cxk Kd i = 0) : CI (jcpy M a sp d dp n) := by
  refine ⟨fun b k hb => ?_, fun b k hb => ?_⟩
  · by_cases hq : b = d ∧ dp ≤ k ∧ k < dp + n
    · obtain ⟨rfl, h1, h2⟩ := hq
      rw [jcpy_in M h1 h2, hd]
      have q := CI.r h ha h0 (sp + (k - dp))
      have q2 := hv (sp + (k - dp)) k
      omega
    · rw [jcpy_ne M hq]
      exact h.1 b k hb
  · by_cases hq : b = d ∧ dp ≤ k ∧ k < dp + n
    · rw [hq.1, hd, hx] at hb
      exact absurd rfl hb
    · rw [jcpy_ne M hq]
      exact h.2 b k hb
/-- places that may be written: kind and slot (1000: every one) -/
noncomputable def kh (w : Nat × Nat) (K : Nat) (i : Int) : Bool := Nat.beq w.1 K && (Nat.beq w.2 1000 || Nat.beq w.2 i.toNat)
noncomputable def kw (W : List (Nat × Nat)) (K : Nat) (i : Int) : Bool := match W with
  | [] => false
  | w :: r => kh w K i || kw r K i
/-- all but the places of W are as in T -/
noncomputable def FR (W : List (Nat × Nat)) (T M : jm) : Prop := ∀ (a : Nat) (i : Int), kw W (kd a) i = false → M a i = T a i
theorem FR.rfl (W : List (Nat × Nat)) (M : jm) : FR W M M := fun _ _ _ => Eq.refl _
theorem FR.g {W : List (Nat × Nat)} {T M : jm} (h : FR W T M) {a K : Nat} {i : Int} (hk : kd a = K) (h0 : kw W K i = false) : M a i = T a i := h a i (by rw [hk]; exact h0)
end
