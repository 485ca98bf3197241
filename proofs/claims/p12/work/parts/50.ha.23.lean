section
section ST
variable {A : Nat → Option (Nat × (Nat → Int32))} {D : Nat} {m : ix_M} {pc : Nat} {ls : ix_L} {st : List Value} {M : jm} {Q : Option Value → jm → Prop}
theorem sK_o (A : Nat → Option (Nat × (Nat → Int32))) {a : Nat} (h : sK a = true) : ix_cno (xT A) a = some (a - 1000000 + 100) := by
  have hr := sK_r h
  unfold ix_cno
  rw [blt_f (by omega), cond_false]
  obtain ⟨k, hk⟩ : ∃ k, a - 1000000 = k := ⟨_, rfl⟩
  rw [hk]
  show xT_O k = some (k + 100)
  unfold xT_O
  rw [show (Nat.ble 100 k && Nat.blt k 116) = true from by rw [Bool.and_eq_true]; exact ⟨Nat.ble_eq.mpr (by omega), Nat.blt_eq.mpr (by omega)⟩]
  rfl
theorem bK_b (A : Nat → Option (Nat × (Nat → Int32))) {b : Nat} (h : bK b = true) : ix_cnb (xT A) b = some (xS_len.getD (b - 1000000 - 200) 0, fun j => (xS_byt.getD (b - 1000000 - 200) []).getD j 0) := by
  have hr := bK_r h
  unfold ix_cnb
  rw [blt_f (by omega), cond_false]
  obtain ⟨k, hk⟩ : ∃ k, b - 1000000 = k := ⟨_, rfl⟩
  rw [hk]
  show xT_B k = some (xS_len.getD (k - 200) 0, fun j => (xS_byt.getD (k - 200) []).getD j 0)
  unfold xT_B
  rw [show (Nat.ble 200 k && Nat.blt k 216) = true from by rw [Bool.and_eq_true]; exact ⟨Nat.ble_eq.mpr (by omega), Nat.blt_eq.mpr (by omega)⟩]
  rfl
theorem xT_A9 (A : Nat → Option (Nat × (Nat → Int32))) (j : Nat) : xT_A A (j + 9) = none := rfl
theorem bK_s (A : Nat → Option (Nat × (Nat → Int32))) {b : Nat} (h : bK b = true) : ix_cns (xT A) b = none := by
  have hr := bK_r h
  unfold ix_cns
  rw [blt_f (by omega), cond_false]
  obtain ⟨k, hk⟩ : ∃ k, b - 1000000 = k + 9 := ⟨b - 1000000 - 9, by omega⟩
  rw [hk]
  exact xT_A9 A k
theorem jr.ldcs {idx a : Nat} (hi : m.2.2.2.2.2.2 pc = some (.ldc idx)) (hk : ix_tK (xT A) m.1 idx = some (.ref a)) (k : jr A D m (pc + 2) ls (.ref a :: st) M Q) : jr A D m pc ls st M Q := jr_sem hi (fun f => by simp [ix_sem, ix_ret, ix_alu, ix_loc, ix_hp, ix_len, hk]) k
theorem jr.gsv {idx a : Nat} (hi : m.2.2.2.2.2.2 pc = some (.getfield idx)) (hF : ix_tF (xT A) m.1 idx = none) (hG : ix_tG (xT A) m.1 idx = some true) (h : sK a = true) (k : jr A D m (pc + 3) ls (.ref (a + 100) :: st) M Q) : jr A D m pc ls (.ref a :: st) M Q := jr_sem hi (fun f => by
  have e := sK_o A h
  have e2 : 1000000 + (a - 1000000 + 100) = a + 100 := by have := sK_r h; omega
  simp [ix_sem, ix_ret, ix_alu, ix_loc, ix_hp, ix_len, hF, hG, e, e2]) k
theorem jr.gsc {idx a : Nat} (hi : m.2.2.2.2.2.2 pc = some (.getfield idx)) (hF : ix_tF (xT A) m.1 idx = none) (hG : ix_tG (xT A) m.1 idx = some false) (h : sK a = true) (k : jr A D m (pc + 3) ls (.int (Int32.ofInt 0) :: st) M Q) : jr A D m pc ls (.ref a :: st) M Q := jr_sem hi (fun f => by
  have e := sK_o A h
  show _ = some (Sum.inl (pc + 3, ls, Value.int 0 :: st, jH M))
  simp [ix_sem, ix_ret, ix_alu, ix_loc, ix_hp, ix_len, hF, hG, e]) k
end ST
end
