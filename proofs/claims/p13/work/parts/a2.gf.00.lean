section
/-! ===== the reference: tick ===== -/
/-- who lives behind k ticks, those below i behind one more -/
noncomputable def TW (T M : jm) (a c : Nat) (m k i : Int) : Prop := ∀ j : Int, 0 ≤ j → j < m → M a j = if (if j < i then k + 1 else k) = 0 ∨ T 598 2 + (if j < i then k + 1 else k) < T c j then T a j else 0
theorem TW.z {T : jm} {a c : Nat} {m : Int} : TW T T a c m 0 0 := fun j j0 j1 => by
  rw [if_neg (show ¬ j < 0 by omega), if_pos (Or.inl rfl)]
theorem TW.n {T M : jm} {a c : Nat} {m k : Int} (h : TW T M a c m k m) : TW T M a c m (k + 1) 0 := fun j j0 j1 => by
  have q := h j j0 j1
  rw [if_pos j1] at q
  rw [if_neg (show ¬ j < 0 by omega)]
  exact q
theorem TW.e {T M M2 : jm} {a c : Nat} {m k i : Int} (h : TW T M a c m k i) (e : ∀ j : Int, M2 a j = M a j) : TW T M2 a c m k i := fun j j0 j1 => by
  rw [e]
  exact h j j0 j1
theorem TW.s {T M : jm} {a c : Nat} {m k i v : Int} (h : TW T M a c m k i) (hi : 0 ≤ i ∧ i < m) (hk : 0 ≤ k) (h01 : 0 ≤ T a i ∧ T a i ≤ 1) (hv : v = if M a i ≠ 0 ∧ T 598 2 + (k + 1) < T c i then 1 else 0) : TW T (ju M a i v) a c m k (i + 1) := fun j j0 j1 => by
  by_cases e : j = i
  · subst e
    have q := h j j0 j1
    rw [ju_same, hv]
    rw [if_neg (show ¬ j < j by omega)] at q
    rw [if_pos (show j < j + 1 by omega), q]
    (repeat' split) <;> omega
  · have q := h j j0 j1
    rw [ju_i _ _ e, q]
    by_cases z : j < i
    · rw [if_pos z, if_pos (show j < i + 1 by omega)]
    · rw [if_neg z, if_neg (show ¬ j < i + 1 by omega)]
theorem RG1.keepx {M : jm} {g v : Int} (h : RG1 M) (hu : M 606 g ≠ 0) : RG1 (ju M 606 g v) := fun j hj => by
  have q := h j hj
  unfold RGs at q ⊢
  intro u
  have hq : M 606 j ≠ 0 := by
    by_cases e : j = g
    · rw [e]; exact hu
    · rw [ju_i M v e] at u; exact u
  rw [ju_c M v (by decide), ju_c M v (by decide), ju_c M v (by decide), ju_c M v (by decide), ju_c M v (by decide), ju_c M v (by decide), ju_c M v (by decide)]
  exact q hq
theorem TW.f {T M : jm} {a c : Nat} {m k : Int} (h : TW T M a c m k 0) (hk : 1 ≤ k) : ∀ j : Int, 0 ≤ j → j < m → M a j = if T c j ≤ T 598 2 + k then 0 else T a j := fun j j0 j1 => by
  have q := h j j0 j1
  rw [if_neg (show ¬ j < 0 by omega)] at q
  rw [q]
  by_cases z : T c j ≤ T 598 2 + k
  · rw [if_pos z, if_neg (by omega)]
  · rw [if_neg z, if_pos (by omega)]
end
