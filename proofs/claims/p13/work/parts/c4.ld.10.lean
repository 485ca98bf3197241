section
theorem ci_ok (K : Nat) (i : Int) : (ci K i).1 ≤ (ci K i).2 := by
  unfold ci
  cases Nat.beq K 24
  · show (bif cob K then (cio K i.toNat).getD (-9223372036854775808, 9223372036854775807) else (cir K).getD (-9223372036854775808, 9223372036854775807)).1 ≤ (bif cob K then (cio K i.toNat).getD (-9223372036854775808, 9223372036854775807) else (cir K).getD (-9223372036854775808, 9223372036854775807)).2
    cases cob K
    · exact ok_cir K
    · exact ok_cio K i.toNat
  · show (bif Nat.beq i.toNat 4 then ((0 : Int), (40 : Int)) else (-2147483648, 2147483647)).1 ≤ (bif Nat.beq i.toNat 4 then ((0 : Int), (40 : Int)) else (-2147483648, 2147483647)).2
    cases Nat.beq i.toNat 4 <;> decide
theorem ci_row {K : Nat} (h : cob K = false) (h2 : ((cir K).getD (-9223372036854775808, 9223372036854775807)).1 ≤ 0 ∧ 0 ≤ ((cir K).getD (-9223372036854775808, 9223372036854775807)).2) (i : Int) : (ci K i).1 ≤ 0 ∧ 0 ≤ (ci K i).2 := by
  unfold ci
  cases Nat.beq K 24
  · show (bif cob K then (cio K i.toNat).getD (-9223372036854775808, 9223372036854775807) else (cir K).getD (-9223372036854775808, 9223372036854775807)).1 ≤ 0 ∧ 0 ≤ (bif cob K then (cio K i.toNat).getD (-9223372036854775808, 9223372036854775807) else (cir K).getD (-9223372036854775808, 9223372036854775807)).2
    rw [h]
    exact h2
  · show (bif Nat.beq i.toNat 4 then ((0 : Int), (40 : Int)) else (-2147483648, 2147483647)).1 ≤ 0 ∧ 0 ≤ (bif Nat.beq i.toNat 4 then ((0 : Int), (40 : Int)) else (-2147483648, 2147483647)).2
    cases Nat.beq i.toNat 4 <;> decide
theorem ci_nat (K : Nat) (i : Int) : ci K i = ci K (Int.ofNat i.toNat) := rfl
theorem cxk_nat (K : Nat) (i : Int) : cxk K i = cxk K (Int.ofNat i.toNat) := rfl
theorem cxk_lt {K : Nat} {i : Int} (h : cxk K i ≠ 0) : i.toNat < 13 := by
  rcases Nat.lt_or_ge i.toNat 13 with q | q
  · exact q
  · exfalso
    apply h
    unfold cxk
    rw [jne0 (show 7 < i.toNat by omega), jne0 (show 2 < i.toNat by omega), jne0 (show 12 < i.toNat by omega)]
    cases Nat.beq K 18 <;> cases Nat.beq K 22 <;> cases Nat.beq K 44 <;> rfl
noncomputable def m0o (c : ix_C) : Bool := match c with
  | .inr _ => true
  | .inl _ => false
noncomputable def M1 : jm := fun a i => bif Nat.blt a 598 then (bif m0o (xh0 a) && Nat.ble (m0n (xh0 a)) i.toNat then (ci (kd a) i).1 else jp0 (xh0 a) i.toNat) else M0 a i
theorem M1_hi {a : Nat} (h : 598 ≤ a) (i : Int) : M1 a i = M0 a i := by
  unfold M1
  rw [jnb h]
  rfl
theorem M1_lo {a : Nat} (h : a < 598) (i : Int) : M1 a i = (bif m0o (xh0 a) && Nat.ble (m0n (xh0 a)) i.toNat then (ci (kd a) i).1 else jp0 (xh0 a) i.toNat) := by
  unfold M1
  rw [Nat.blt_eq.mpr h]
  rfl
theorem M1_n {a : Nat} (j : Nat) (h : a < 598 → m0o (xh0 a) = true → j < m0n (xh0 a)) : M1 a (j : Int) = M0 a (j : Int) := by
  rcases Nat.lt_or_ge a 598 with ha | ha
  · rw [M1_lo ha, show ((j : Int)).toNat = j from rfl]
    rw [show (m0o (xh0 a) && Nat.ble (m0n (xh0 a)) j) = false from by
      cases e : m0o (xh0 a) with
      | false => rfl
      | true =>
        cases hb : Nat.ble (m0n (xh0 a)) j with
        | false => rfl
        | true =>
          have h1 := Nat.ble_eq.mp hb
          have h2 := h ha e
          omega]
    exact (M0_in (by omega) j).symm
  · exact M1_hi ha _
theorem sh0 : ∀ a, a < 598 → m0o (xh0 a) = true → 100 ≤ (xsh a).1 ∧ (xsh a).2 ≤ m0n (xh0 a) := by decide +kernel
end
