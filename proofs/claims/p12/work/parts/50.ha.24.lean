section
section ST
variable {A : Nat → Option (Nat × (Nat → Int32))} {D : Nat} {m : ix_M} {pc : Nat} {ls : ix_L} {st : List Value} {M : jm} {Q : Option Value → jm → Prop}
theorem jr.blen {b : Nat} (v : Int) (hi : m.2.2.2.2.2.2 pc = some .arraylength) (h : bK b = true) (hv : slb b = v) (k : jr A D m (pc + 1) ls (.int (Int32.ofInt v) :: st) M Q) : jr A D m pc ls (.ref b :: st) M Q := jr_sem hi (fun f => by
  have hb := bK_r h
  have e1 := jarrn M (a := b) (xNc_le (by omega))
  have e2 := bK_s A h
  have e3 := bK_b A h
  have e4 : Int32.ofInt v = Int32.ofNat (xS_len.getD (b - 1000000 - 200) 0) := by rw [← hv]; exact (slb0 (b - 1000000 - 200) (by omega)).2.symm
  rw [e4]
  simp [ix_sem, ix_ret, ix_alu, ix_loc, ix_hp, ix_len, e1, e2, e3]) k
theorem jr.bald {b : Nat} {i : Int} (v : Int) (hi : m.2.2.2.2.2.2 pc = some .baload) (h : bK b = true) (h0 : 0 ≤ i) (h1 : i < slb b) (hv : sbv b i = v) (k : jr A D m (pc + 1) ls (.int (Int32.ofInt v) :: st) M Q) : jr A D m pc ls (.int (Int32.ofInt i) :: .ref b :: st) M Q := jr_sem hi (fun f => by
  have hb := bK_r h
  have e1 := jarrn M (a := b) (xNc_le (by omega))
  have e3 := bK_b A h
  have hq := slb_r h
  have hlen : xS_len.getD (b - 1000000 - 200) 0 ≤ 2000000 := by have := (slb0 (b - 1000000 - 200) (by omega)).1; omega
  obtain ⟨q1, q2⟩ := jin h0 (show i < ((xS_len.getD (b - 1000000 - 200) 0 : Nat) : Int) from h1) hlen
  have e4 : Int32.ofInt v = (xS_byt.getD (b - 1000000 - 200) []).getD i.toNat 0 := by rw [← hv]; exact Int32.ofInt_toInt _
  rw [e4]
  have hs : ix_hp (xT A) m.1 m.2.2.2.2.2.1 .baload (.int (Int32.ofInt i) :: .ref b :: st) (jH M) = some (.int ((xS_byt.getD (b - 1000000 - 200) []).getD i.toNat 0) :: st, jH M) := by
    unfold ix_hp
    simp only [e1, e3]
    rw [if_neg q1, q2]
  simp [ix_sem, ix_ret, ix_alu, ix_loc, ix_len, hs]) k
noncomputable def xfmv (A : Nat → Option (Nat × (Nat → Int32))) : Value := match A 300 with
  | none => .null
  | some q => bif Nat.beq q.1 0 then .null else .ref 1000300
theorem xfmv_or (A : Nat → Option (Nat × (Nat → Int32))) : xfmv A = .null ∨ xfmv A = .ref 1000300 := by
  unfold xfmv
  cases A 300 with
  | none => exact Or.inl rfl
  | some q =>
    show (bif Nat.beq q.1 0 then Value.null else Value.ref 1000300) = .null ∨ (bif Nat.beq q.1 0 then Value.null else Value.ref 1000300) = .ref 1000300
    cases Nat.beq q.1 0
    · exact Or.inr rfl
    · exact Or.inl rfl
theorem jr.gfm [hA : HA A] {idx : Nat} (hi : m.2.2.2.2.2.2 pc = some (.getstatic idx)) (hs : ix_tS (xT A) m.1 idx = (match A 300 with
  | none => none
  | some q => bif Nat.beq q.1 0 then some .null else some (.ref 1000300))) (k : jr A D m (pc + 3) ls (xfmv A :: st) M Q) : jr A D m pc ls st M Q := by
  refine jr.gst (v := xfmv A) hi ?_ k
  rw [hs]
  have h := HA_h hA
  unfold xfmv
  cases e : A 300 with
  | none => rw [e] at h; exact absurd h (by decide)
  | some q =>
    show (bif Nat.beq q.1 0 then some Value.null else some (Value.ref 1000300)) = some (bif Nat.beq q.1 0 then Value.null else Value.ref 1000300)
    cases Nat.beq q.1 0 <;> rfl
end ST
end
