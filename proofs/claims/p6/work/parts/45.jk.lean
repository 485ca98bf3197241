/-! ===== more rules: static values, lengths, answers that are references, constant rows, Math ===== -/
section JK
variable {A : Nat → Option (Nat × (Nat → Int32))} {D : Nat} {m : ix_M} {pc : Nat} {ls ls' : ix_L} {st : List Value} {M : jm} {Q : Option Value → jm → Prop}
theorem jr.gst {idx : Nat} {v : Value} (hi : m.2.2.2.2.2.2 pc = some (.getstatic idx)) (hs : ix_tS (xT A) m.1 idx = some v) (k : jr A D m (pc + 3) ls (v :: st) M Q) : jr A D m pc ls st M Q := jr_sem hi (fun f => fxk_getstatic (by unfold fx_getstatic; rw [hs])) k
theorem jr.areturn {a : Nat} {ty : FieldType} (hi : m.2.2.2.2.2.2 pc = some .areturn) (hr : ix_ret m.2.2.2.2.1 .areturn [.ref a] = some (some (.ref a))) (q : Q (some (.ref a)) M) : jr A D m pc ls [.ref a] M Q := jr_ret hi hr q
theorem jr.alen0 {a n : Nat} {x : Int} (hi : m.2.2.2.2.2.2 pc = some .arraylength) (ha : a < xNc) (hs : xsh a = (0, n)) (hx : Int32.ofNat n = Int32.ofInt x) (k : jr A D m (pc + 1) ls (.int (Int32.ofInt x) :: st) M Q) : jr A D m pc ls (.ref a :: st) M Q := jr_sem hi (fun f => fxk_arraylength (by
  unfold fx_arraylength
  simp only [jarr0 ha hs]
  rw [if_pos (Or.inl (by decide)), hx])) k
theorem jarrn (M : jm) {a : Nat} (h : xNc ≤ a) : ix_arr (jH M) a = none := by
  unfold ix_arr
  rw [show Nat.blt a (jH M).1 = false from by
    cases hb : Nat.blt a (jH M).1 with
    | false => rfl
    | true => exact absurd (Nat.blt_eq.mp hb) (Nat.not_lt.mpr h)]
  rfl
theorem jr.alens {a n : Nat} {g : Nat → Int32} {x : Int} (hi : m.2.2.2.2.2.2 pc = some .arraylength) (ha : xNc ≤ a) (hc : ix_cns (xT A) a = some (n, g)) (hx : Int32.ofNat n = Int32.ofInt x) (k : jr A D m (pc + 1) ls (.int (Int32.ofInt x) :: st) M Q) : jr A D m pc ls (.ref a :: st) M Q := jr_sem hi (fun f => fxk_arraylength (by
  unfold fx_arraylength
  simp only [jarrn M ha, hc, hx])) k
theorem jr.ials {a n : Nat} {g : Nat → Int32} {i : Int} (x : Int) (hi : m.2.2.2.2.2.2 pc = some .iaload) (ha : xNc ≤ a) (hc : ix_cns (xT A) a = some (n, g)) (hn : n ≤ 2000000) (h0 : 0 ≤ i) (h1 : i < (n : Nat)) (hx : g i.toNat = Int32.ofInt x) (k : jr A D m (pc + 1) ls (.int (Int32.ofInt x) :: st) M Q) : jr A D m pc ls (.int (Int32.ofInt i) :: .ref a :: st) M Q := jr_sem hi (fun f => fxk_iaload (by
  unfold fx_iaload
  obtain ⟨q1, q2⟩ := jin h0 h1 hn
  simp only [jarrn M ha, hc]
  rw [if_neg q1, q2, hx])) k
end JK
