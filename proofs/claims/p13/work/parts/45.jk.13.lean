section
section JL
variable {A : Nat → Option (Nat × (Nat → Int32))} {D : Nat} {m : ix_M} {pc : Nat} {ls : ix_L} {st : List Value} {M : jm} {Q : Option Value → jm → Prop}
theorem ix_cal_m {f : ix_F} {oc idx kd mid na : Nat} {s s' : List Value} {hp : ix_H} (h1 : ix_tI (xT A) oc idx = some (kd, mid, na)) (h7 : kd ≠ 7) (h5 : kd ≠ 5) (h6 : kd ≠ 6) (h : ix_mth kd s = some s') : ix_cal (xT A) f oc (.invokestatic idx) s hp = some (s', hp) := by
  unfold ix_cal
  simp only [h1]
  split
  · rename_i e; rcases e.1 with q | q
    · exact absurd q h5
    · exact absurd q h6
  · rw [h]
theorem jr.imin {idx mid na : Nat} {x y : Int} (hi : m.2.2.2.2.2.2 pc = some (.invokestatic idx)) (h1 : ix_tI (xT A) m.1 idx = some (9, mid, na)) (hc : ix_cats st ≤ 8) (hx : -2147483648 ≤ x ∧ x ≤ 2147483647) (hy : -2147483648 ≤ y ∧ y ≤ 2147483647) (k : ∀ z : Int, (z = x ∨ z = y) → z ≤ x → z ≤ y → jr A D m (pc + 3) ls (.int (Int32.ofInt z) :: st) M Q) : jr A D m pc ls (.int (Int32.ofInt y) :: .int (Int32.ofInt x) :: st) M Q := by
  refine jr_c1 (st' := .int (Int32.ofInt (if y < x then y else x)) :: st) (M1 := M) (Or.inr (Or.inr ⟨_, rfl⟩)) hi (fun f => ix_cal_m h1 (by decide) (by decide) (by decide) ?_) (k _ ?_ ?_ ?_)
  · show (if ix_cats st ≤ 8 then some (Value.int (if Int32.ofInt y < Int32.ofInt x then Int32.ofInt y else Int32.ofInt x) :: st) else none) = _
    rw [if_pos hc]
    by_cases h : y < x
    · rw [if_pos ((j_cb hy hx).2.1.mpr h), if_pos h]
    · rw [if_neg (fun q => h ((j_cb hy hx).2.1.mp q)), if_neg h]
  · by_cases h : y < x
    · rw [if_pos h]; exact Or.inr rfl
    · rw [if_neg h]; exact Or.inl rfl
  · by_cases h : y < x
    · rw [if_pos h]; omega
    · rw [if_neg h]; omega
  · by_cases h : y < x
    · rw [if_pos h]; omega
    · rw [if_neg h]; omega
theorem jr.imax {idx mid na : Nat} {x y : Int} (hi : m.2.2.2.2.2.2 pc = some (.invokestatic idx)) (h1 : ix_tI (xT A) m.1 idx = some (10, mid, na)) (hc : ix_cats st ≤ 8) (hx : -2147483648 ≤ x ∧ x ≤ 2147483647) (hy : -2147483648 ≤ y ∧ y ≤ 2147483647) (k : ∀ z : Int, (z = x ∨ z = y) → x ≤ z → y ≤ z → jr A D m (pc + 3) ls (.int (Int32.ofInt z) :: st) M Q) : jr A D m pc ls (.int (Int32.ofInt y) :: .int (Int32.ofInt x) :: st) M Q := by
  refine jr_c1 (st' := .int (Int32.ofInt (if x < y then y else x)) :: st) (M1 := M) (Or.inr (Or.inr ⟨_, rfl⟩)) hi (fun f => ix_cal_m h1 (by decide) (by decide) (by decide) ?_) (k _ ?_ ?_ ?_)
  · show (if ix_cats st ≤ 8 then some (Value.int (if Int32.ofInt x < Int32.ofInt y then Int32.ofInt y else Int32.ofInt x) :: st) else none) = _
    rw [if_pos hc]
    by_cases h : x < y
    · rw [if_pos ((j_cb hx hy).2.1.mpr h), if_pos h]
    · rw [if_neg (fun q => h ((j_cb hx hy).2.1.mp q)), if_neg h]
  · by_cases h : x < y
    · rw [if_pos h]; exact Or.inr rfl
    · rw [if_neg h]; exact Or.inl rfl
  · by_cases h : x < y
    · rw [if_pos h]; omega
    · rw [if_neg h]; omega
  · by_cases h : x < y
    · rw [if_pos h]; omega
    · rw [if_neg h]; omega
theorem jr.lmin {idx mid na : Nat} {x y : Int} (hi : m.2.2.2.2.2.2 pc = some (.invokestatic idx)) (h1 : ix_tI (xT A) m.1 idx = some (11, mid, na)) (hc : ix_cats st ≤ 8) (hx : -9223372036854775808 ≤ x ∧ x ≤ 9223372036854775807) (hy : -9223372036854775808 ≤ y ∧ y ≤ 9223372036854775807) (k : ∀ z : Int, (z = x ∨ z = y) → z ≤ x → z ≤ y → jr A D m (pc + 3) ls (.long (Int64.ofInt z) :: st) M Q) : jr A D m pc ls (.long (Int64.ofInt y) :: .long (Int64.ofInt x) :: st) M Q := by
  have hL : Int64.ofInt y < Int64.ofInt x ↔ y < x := by
    rw [Int64.lt_iff_toInt_lt, Int64.toInt_ofInt_of_le (by omega) (by omega), Int64.toInt_ofInt_of_le (by omega) (by omega)]
  refine jr_c1 (st' := .long (Int64.ofInt (if y < x then y else x)) :: st) (M1 := M) (Or.inr (Or.inr ⟨_, rfl⟩)) hi (fun f => ix_cal_m h1 (by decide) (by decide) (by decide) ?_) (k _ ?_ ?_ ?_)
  · show (if ix_cats st ≤ 8 then some (Value.long (if Int64.ofInt y < Int64.ofInt x then Int64.ofInt y else Int64.ofInt x) :: st) else none) = _
    rw [if_pos hc]
    by_cases h : y < x
    · rw [if_pos (hL.mpr h), if_pos h]
    · rw [if_neg (fun q => h (hL.mp q)), if_neg h]
  · by_cases h : y < x
    · rw [if_pos h]; exact Or.inr rfl
    · rw [if_neg h]; exact Or.inl rfl
  · by_cases h : y < x
    · rw [if_pos h]; omega
    · rw [if_neg h]; omega
  · by_cases h : y < x
    · rw [if_pos h]; omega
    · rw [if_neg h]; omega
/-- the memory behind System.arraycopy -/
noncomputable def jcpy (M : jm) (a : Nat) (sp : Int) (d : Nat) (dp n : Int) : jm := fun b k => if b = d ∧ dp ≤ k ∧ k < dp + n then M a (sp + (k - dp)) else M b k
theorem jcpy_ne (M : jm) {a d b : Nat} {sp dp n k : Int} (h : ¬ (b = d ∧ dp ≤ k ∧ k < dp + n)) : jcpy M a sp d dp n b k = M b k := by
  unfold jcpy
  rw [if_neg h]
theorem jcpy_c (M : jm) {a d b : Nat} {sp dp n k : Int} (h : b ≠ d) : jcpy M a sp d dp n b k = M b k := jcpy_ne M (fun q => h q.1)
theorem jcpy_in (M : jm) {a d : Nat} {sp dp n k : Int} (h1 : dp ≤ k) (h2 : k < dp + n) : jcpy M a sp d dp n d k = M a (sp + (k - dp)) := by
  unfold jcpy
  rw [if_pos ⟨rfl, h1, h2⟩]
theorem jH_cpy (M : jm) {a d : Nat} {sp dp n : Int} {c : ix_C} (h : c = jcell d (xsh d) (jcpy M a sp d dp n d)) : ix_put (jH M) d c = jH (jcpy M a sp d dp n) := by
  show (xNc, xNs_, ix_up (jh M) d c) = (xNc, xNs_, jh (jcpy M a sp d dp n))
  have e : ix_up (jh M) d c = jh (jcpy M a sp d dp n) := by
    funext b
    by_cases hb : b = d
    · subst hb
      rw [ix_up_self]
      exact h
    · rw [ix_up_ne _ _ hb]
      unfold jh
      congr 1
      funext k
      exact (jcpy_c M hb).symm
  rw [e]
theorem jnn {x : Int} (h0 : 0 ≤ x) (h1 : x ≤ 2000000) : ¬ Int32.ofInt x < 0 ∧ (Int32.ofInt x).toNatClampNeg = x.toNat := by
  have e : (Int32.ofInt x).toNatClampNeg = x.toNat := Int32.toNatClampNeg_ofInt_of_le (by omega) (by omega)
  have e2 : (Int32.ofInt x).toInt = x := Int32.toInt_ofInt_of_le (by omega) (by omega)
  refine ⟨fun h => ?_, e⟩
  have := Int32.lt_iff_toInt_lt.mp h
  rw [e2] at this
  have h3 : (0 : Int32).toInt = 0 := rfl
  omega
theorem jr.acp {idx mid na a d n0 n1 : Nat} {sp dp n : Int} (hi : m.2.2.2.2.2.2 pc = some (.invokestatic idx)) (h1 : ix_tI (xT A) m.1 idx = some (7, mid, na)) (hc : ix_cats st ≤ 8) (ha : a < xNc) (hs : xsh a = (0, n0)) (hd : d < xNc) (ht : xsh d = (0, n1)) (hn0 : n0 ≤ 2000000) (hn1 : n1 ≤ 2000000) (hsp : 0 ≤ sp) (hdp : 0 ≤ dp) (hn : 0 ≤ n) (h0 : sp + n ≤ (n0 : Nat)) (h2 : dp + n ≤ (n1 : Nat)) (k : jr A D m (pc + 3) ls st (jcpy M a sp d dp n) Q) : jr A D m pc ls (.int (Int32.ofInt n) :: .int (Int32.ofInt dp) :: .ref d :: .int (Int32.ofInt sp) :: .ref a :: st) M Q := by
  refine jr_c1 (Or.inr (Or.inr ⟨_, rfl⟩)) hi (fun f => ?_) k
  obtain ⟨p1, p2⟩ := jnn hsp (by omega)
  obtain ⟨q1, q2⟩ := jnn hdp (by omega)
  obtain ⟨r1, r2⟩ := jnn hn (by omega)
  unfold ix_cal
  simp only [h1]
  unfold ix_acp
  simp only [jarr0 ha hs, jarr0 hd ht]
  rw [p2, q2, r2, if_pos ⟨p1, q1, r1, by omega, by omega, hc⟩]
  congr 2
  refine jH_cpy M ?_
  rw [ht]
  show _ = Sum.inl (0, n1, Sum.inl _)
  congr 3
  congr 1
  funext j
  unfold va_cpy jcpy
  by_cases hj : dp.toNat ≤ j ∧ j < dp.toNat + n.toNat
  · rw [if_pos hj, if_pos ⟨rfl, by omega, by omega⟩]
    show Int32.ofInt (M a ((sp.toNat + (j - dp.toNat) : Nat) : Int)) = Int32.ofInt (M a (sp + ((j : Int) - dp)))
    rw [show (((sp.toNat + (j - dp.toNat) : Nat) : Int)) = sp + ((j : Int) - dp) by omega]
  · rw [if_neg hj, if_neg (by omega)]
end JL
end
section
end
