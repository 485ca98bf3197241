section
theorem FR.cpy {W : List (Nat × Nat)} {T M : jm} (h : FR W T M) {a d Kd : Nat} {sp dp n : Int} (hd : kd d = Kd) (h0 : ∀ i : Int, kw W Kd i = true) : FR W T (jcpy M a sp d dp n) := fun b k hb => (jcpy_ne M (fun q => by rw [q.1, hd, h0] at hb; exact absurd hb (by decide))).trans (h b k hb)
end
section
/-! ===== texts ===== -/
noncomputable abbrev HA (A : Nat → Option (Nat × (Nat → Int32))) : Prop := Nonempty (PLift ((A 300).isSome = true))
theorem HA_h {A : Nat → Option (Nat × (Nat → Int32))} (h : HA A) : (A 300).isSome = true := by
  obtain ⟨x⟩ := h
  exact x.down
noncomputable def sK (a : Nat) : Bool := Nat.ble 1000100 a && Nat.blt a 1000116
noncomputable def bK (a : Nat) : Bool := Nat.ble 1000200 a && Nat.blt a 1000216
theorem sK_r {a : Nat} (h : sK a = true) : 1000100 ≤ a ∧ a < 1000116 := by
  unfold sK at h
  rw [Bool.and_eq_true] at h
  exact ⟨Nat.ble_eq.mp h.1, Nat.blt_eq.mp h.2⟩
theorem bK_r {a : Nat} (h : bK a = true) : 1000200 ≤ a ∧ a < 1000216 := by
  unfold bK at h
  rw [Bool.and_eq_true] at h
  exact ⟨Nat.ble_eq.mp h.1, Nat.blt_eq.mp h.2⟩
theorem sK_b {a : Nat} (h : sK a = true) : bK (a + 100) = true := by
  have := sK_r h
  unfold bK
  rw [Bool.and_eq_true]
  exact ⟨Nat.ble_eq.mpr (by omega), Nat.blt_eq.mpr (by omega)⟩
noncomputable def slb (b : Nat) : Int := ((xS_len.getD (b - 1000000 - 200) 0 : Nat) : Int)
noncomputable def sbv (b : Nat) (i : Int) : Int := ((xS_byt.getD (b - 1000000 - 200) []).getD i.toNat 0).toInt
theorem slb0 : ∀ k, k < 16 → xS_len.getD k 0 ≤ 300 ∧ Int32.ofNat (xS_len.getD k 0) = Int32.ofInt ((xS_len.getD k 0 : Nat) : Int) := by decide +kernel
theorem slb_r {b : Nat} (h : bK b = true) : 0 ≤ slb b ∧ slb b ≤ 300 := by
  have := bK_r h
  have q := (slb0 (b - 1000000 - 200) (by omega)).1
  unfold slb
  omega
theorem sbv0 : ∀ k, k < 16 → ∀ i, i < xS_len.getD k 0 → (0 : Int) ≤ ((xS_byt.getD k []).getD i 0).toInt ∧ ((xS_byt.getD k []).getD i 0).toInt ≤ 127 := by decide +kernel
theorem sbv_r {b : Nat} {i : Int} (h : bK b = true) (h0 : 0 ≤ i) (h1 : i < slb b) : 0 ≤ sbv b i ∧ sbv b i ≤ 127 := by
  have := bK_r h
  unfold slb at h1
  exact sbv0 (b - 1000000 - 200) (by omega) i.toNat (by omega)
section ST
variable {A : Nat → Option (Nat × (Nat → Int32))} {D : Nat} {m : ix_M} {pc : Nat} {ls : ix_L} {st : List Value} {M : jm} {Q : Option Value → jm → Prop}
theorem jobjn (M : jm) {a : Nat} (h : xNc ≤ a) : ix_obj (jH M) a = none := by
  unfold ix_obj
  rw [show Nat.blt a (jH M).1 = false from by
    cases hb : Nat.blt a (jH M).1 with
    | false => rfl
    | true => exact absurd (Nat.blt_eq.mp hb) (Nat.not_lt.mpr h)]
  rfl
theorem xNc_le {a : Nat} (h : 1000000 ≤ a) : xNc ≤ a := Nat.le_trans (by decide) h
theorem blt_f {a b : Nat} (h : b ≤ a) : Nat.blt a b = false := by
  cases hb : Nat.blt a b with
  | false => rfl
  | true => have := Nat.blt_eq.mp hb; omega
end ST
end
