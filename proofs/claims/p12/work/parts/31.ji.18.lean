section
theorem j_zr {x : Int} (h : 0 ≤ x ∧ x ≤ 1) : narrow .boolean (.int (Int32.ofInt x)) = .int (Int32.ofInt x) := by
  rcases (show x = 0 ∨ x = 1 by omega) with rfl | rfl <;> decide
theorem RH.part {M : jm} (h : RH M) (t : Int) : M 603 t = 6 → M 604 t ≤ 392 := by
  intro e
  have h1 := (h t).1
  rw [e] at h1
  have : lst 6 = 8 := by decide
  omega
theorem RH.car {M : jm} (h : RH M) (t : Int) : (M 603 t = 7 ∨ M 603 t = 8 ∨ M 603 t = 9 → M 604 t ≤ 392) ∧ (M 603 t = 8 → M 604 t ≤ 380) := by
  have h1 := (h t).1
  refine ⟨fun e => ?_, fun e => ?_⟩
  · rcases e with e | e | e <;> rw [e] at h1
    · have : lst 7 = 8 := by decide
      omega
    · have : lst 8 = 20 := by decide
      omega
    · have : lst 9 = 8 := by decide
      omega
  · rw [e] at h1
    have : lst 8 = 20 := by decide
    omega
end
section
/-! ===== the reference: the ends that stand; states of flows ===== -/
noncomputable def RE (M : jm) : Prop := 0 ≤ M 598 65 ∧ M 598 65 < M 598 6 ∧ (M 603 (M 598 65) = 7 ∨ M 603 (M 598 65) = 8 ∨ M 603 (M 598 65) = 9) ∧ (M 598 60 = 6 → M 603 (M 598 65) = 8) ∧ (M 598 60 = 1 ∨ M 598 60 = 6 ∨ M 598 60 = 17) ∧ ∃ t : Int, 0 ≤ t ∧ t < M 598 6 ∧ (M 603 t = 2 ∨ M 603 t = 3)
theorem RE.mk' {M : jm} {h : Int} (e : M 598 65 = h) (h0 : 0 ≤ h) (h1 : h < M 598 6) (h2 : M 603 h = 7 ∨ M 603 h = 8 ∨ M 603 h = 9) (h3 : M 598 60 = 6 → M 603 h = 8) (h4 : M 598 60 = 1 ∨ M 598 60 = 6 ∨ M 598 60 = 17) {t : Int} (t0 : 0 ≤ t) (t1 : t < M 598 6) (t2 : M 603 t = 2 ∨ M 603 t = 3) : RE M := by
  subst e
  exact ⟨h0, h1, h2, h3, h4, t, t0, t1, t2⟩
theorem RE.fr {M M' : jm} (h : RE M) (e65 : M' 598 65 = M 598 65) (e6 : M' 598 6 = M 598 6) (e60 : M' 598 60 = M 598 60) (e3 : ∀ i, M' 603 i = M 603 i) : RE M' := by
  obtain ⟨a1, a2, a3, a4, a5, t, b1, b2, b3⟩ := h
  exact ⟨by rw [e65]; exact a1, by rw [e65, e6]; exact a2, by rw [e65, e3]; exact a3, by rw [e65, e60, e3]; exact a4, by rw [e60]; exact a5, t, b1, by rw [e6]; exact b2, by rw [e3]; exact b3⟩
noncomputable def RF (M : jm) : Prop := ∀ f : Int, 0 ≤ f → M 629 f = 6 → 1 ≤ M 638 f ∧ M 638 f ≤ 10
noncomputable def RFx (M : jm) (g : Int) : Prop := ∀ f : Int, f ≠ g → 0 ≤ f → M 629 f = 6 → 1 ≤ M 638 f ∧ M 638 f ≤ 10
theorem RFx.none {M : jm} {g : Int} (h : RFx M g) (hg : g < 0) : RF M := fun f hf => h f (by omega) hf
theorem RF.fr {M M' : jm} (h : RF M) (h1 : ∀ f, M' 629 f = M 629 f) (h2 : ∀ f, M' 638 f = M 638 f) : RF M' := by
  intro f
  rw [h1, h2]
  exact h f
theorem RFx.fr {M M' : jm} {g : Int} (h : RFx M g) (h1 : ∀ f, M' 629 f = M 629 f) (h2 : ∀ f, M' 638 f = M 638 f) : RFx M' g := by
  intro f
  rw [h1, h2]
  exact h f
theorem RF.o {M : jm} (h : RF M) {a : Nat} {i v : Int} (h1 : 629 ≠ a) (h2 : 638 ≠ a) : RF (ju M a i v) := by
  intro f
  rw [ju_c M v h1, ju_c M v h2]
  exact h f
theorem RFx.o {M : jm} {g : Int} (h : RFx M g) {a : Nat} {i v : Int} (h1 : 629 ≠ a) (h2 : 638 ≠ a) : RFx (ju M a i v) g := by
  intro f
  rw [ju_c M v h1, ju_c M v h2]
  exact h f
theorem RF.x {M : jm} (h : RF M) {g v : Int} : RFx (ju M 629 g v) g := by
  intro f hf
  rw [ju_i M v hf, ju_c M v (by decide : (638 : Nat) ≠ 629)]
  exact h f
theorem RFx.x {M : jm} {g : Int} (h : RFx M g) {v : Int} : RFx (ju M 629 g v) g := by
  intro f hf
  rw [ju_i M v hf, ju_c M v (by decide : (638 : Nat) ≠ 629)]
  exact h f hf
theorem RFx.w {M : jm} {g : Int} (h : RFx M g) {s : Int} (hs : M 629 g = 6 → 1 ≤ s ∧ s ≤ 10) : RF (ju M 638 g s) := by
  intro f h0
  rw [ju_c M s (by decide : (629 : Nat) ≠ 638)]
  by_cases hf : f = g
  · subst hf
    rw [ju_same]
    exact hs
  · rw [ju_i M s hf]
    exact h f hf h0
theorem RF.w {M : jm} (h : RF M) {g s : Int} (hs : M 629 g = 6 → 1 ≤ s ∧ s ≤ 10) : RF (ju M 638 g s) := RFx.w (fun f _ => h f) hs
end
section
/-! ===== what the methods of packets and flows leave as it is; heads of kind FOUR; masks ===== -/
noncomputable def sS (a : Nat) (i : Int) : Bool := Nat.blt a 598 || (bif Nat.beq a 598 then (Nat.beq i.toNat 2 || Nat.ble 72 i.toNat) else ((Nat.ble 606 a && Nat.ble a 614) || (Nat.ble 617 a && Nat.ble a 621) || Nat.ble 647 a))
end
