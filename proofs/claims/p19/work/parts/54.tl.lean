/-! ===== what both sides keep between the law's calls ===== -/
def CV (M : jm) (L S : Int) : Prop := CI M ∧ LC M L ∧ GC M ∧ PC M ∧ M 413 2 ≠ M 421 2 ∧ M 421 4 = 0 ∧ M 0 8 = S
def RV (M : jm) (L S : Int) : Prop := RI M ∧ RH M ∧ RF M ∧ RG1 M ∧ FWq (M 650) ∧ MC M ∧ AS M L ∧ M 598 2 = S
theorem kd_hi {a : Nat} (h : 598 ≤ a) : kd a = 0 := by
  unfold kd
  rw [blt_f h]
  rfl
theorem rG_hi {a : Nat} (h : rG a = true) : 598 ≤ a := by
  cases hb : Nat.blt a 598 with
  | false =>
    rcases Nat.lt_or_ge a 598 with q | q
    · rw [Nat.blt_eq.mpr q] at hb
      exact absurd hb (by decide)
    · exact q
  | true =>
    have q := Nat.blt_eq.mp hb
    have e : ∀ k, 598 ≤ k → Nat.beq a k = false := fun k hk => by
      cases hq : Nat.beq a k with
      | false => rfl
      | true => have := Nat.eq_of_beq_eq_true hq; omega
    unfold rG at h
    rw [e 606 (by decide), e 607 (by decide), e 613 (by decide), e 617 (by decide), e 618 (by decide), e 619 (by decide), e 620 (by decide), e 621 (by decide)] at h
    exact absurd h (by decide)
theorem RV.tr {M M' : jm} {L S : Int} (h : RV M L S) (e : ∀ (a : Nat) (i : Int), 598 ≤ a → M' a i = M a i) : RV M' L S := by
  obtain ⟨h1, h2, h3, h4, h5, h6, h7, h8⟩ := h
  exact ⟨fun a i ha => by rw [e a i ha]; exact h1 a i ha, fun j => by rw [e 603 j (by decide), e 604 j (by decide), e 605 j (by decide)]; exact h2 j, RF.fr h3 (fun f => e 629 f (by decide)) (fun f => e 638 f (by decide)), RG1.fr h4 (fun a i ha => e a i (rG_hi ha)), by rw [show M' 650 = M 650 from funext (fun i => e 650 i (by decide))]; exact h5, MC.fr h6 (fun i => e 652 i (by decide)) (fun i => e 653 i (by decide)) (fun i => e 654 i (by decide)) (fun i => e 655 i (by decide)) (e 598 82 (by decide)), AS.fr h7 (fun i => e 685 i (by decide)) (e 598 112 (by decide)), (e 598 2 (by decide)).trans h8⟩
theorem CV.z {M M' : jm} {L S : Int} (h : CV M L S) (e : ∀ (a : Nat) (i : Int), a < 598 → M' a i = M a i) : CV M' L S := by
  obtain ⟨h1, h2, h3, h4, h5, h6, h7⟩ := h
  have f : FR [(0, 1000)] M M' := fun a i hk => e a i (kd_lt (fun q => by
    rw [q] at hk
    have t : kw [(0, 1000)] 0 i = true := rfl
    rw [t] at hk
    exact absurd hk (by decide)))
  exact ⟨⟨fun a i ha => by rw [e a i (kd_lt ha)]; exact h1.1 a i ha, fun a i ha => by rw [e a i (kd_lt (fun q => ha (by rw [q]; rfl)))]; exact h1.2 a i ha⟩, h2.fr f rfl, h3.fr f rfl, h4.fr h1 f rfl, by rw [e 413 2 (by decide), e 421 2 (by decide)]; exact h5, (e 421 4 (by decide)).trans h6, (e 0 8 (by decide)).trans h7⟩
theorem sS_lo {a : Nat} {i : Int} (h : a < 598) : sS a i = true := by
  unfold sS
  rw [Nat.blt_eq.mpr h]
  rfl
theorem RV.kp {M M' : jm} {L S : Int} (h : RV M L S) (i1 : RI M') (i2 : RH M') (i3 : RF M') (k : Kp M M') : RV M' L S := by
  obtain ⟨h1, h2, h3, h4, h5, h6, h7, h8⟩ := h
  exact ⟨i1, i2, i3, RG1.kp h4 k, by rw [show M' 650 = M 650 from funext (fun i => k 650 i rfl)]; exact h5, MC.fr h6 (fun i => k 652 i rfl) (fun i => k 653 i rfl) (fun i => k 654 i rfl) (fun i => k 655 i rfl) (k 598 82 rfl), AS.fr h7 (fun i => k 685 i rfl) (k 598 112 rfl), (k 598 2 rfl).trans h8⟩
theorem CV.kp {M M' : jm} {L S : Int} (h : CV M L S) (k : Kp M M') : CV M' L S := h.z (fun a i ha => k a i (sS_lo ha))
theorem CV.le {M : jm} {L L' S : Int} (h : CV M L S) (hl : L ≤ L') : CV M L' S := ⟨h.1, h.2.1.le hl, h.2.2⟩
theorem RV.le {M : jm} {L L' S : Int} (h : RV M L S) (hl : L ≤ L') : RV M L' S := ⟨h.1, h.2.1, h.2.2.1, h.2.2.2.1, h.2.2.2.2.1, h.2.2.2.2.2.1, h.2.2.2.2.2.2.1.up hl, h.2.2.2.2.2.2.2⟩
def W_all : List (Nat × Nat) := [(1, 1000), (2, 1000), (3, 1000), (4, 1000), (5, 1000), (6, 1000), (7, 1000), (8, 1000), (9, 1000), (10, 1000), (11, 1000), (12, 1000), (13, 1000), (14, 1000), (15, 1000), (16, 1000), (17, 1000), (18, 1000), (19, 1000), (20, 1000), (21, 1000), (22, 1000), (23, 1000), (24, 1000), (25, 1000), (26, 1000), (27, 1000), (28, 1000), (29, 1000), (30, 1000), (31, 1000), (32, 1000), (33, 1000), (34, 1000), (35, 1000), (36, 1000), (37, 1000), (38, 1000), (39, 1000), (40, 1000), (41, 1000), (42, 1000), (43, 1000), (44, 1000), (45, 1000), (46, 1000), (47, 1000), (48, 1000), (49, 1000), (50, 1000), (51, 1000), (52, 1000), (53, 1000), (54, 1000)]
section JP2
variable {A : Nat → Option (Nat × (Nat → Int32))} {D : Nat} {m : ix_M} {pc : Nat} {ls : ix_L} {st : List Value} {M : jm} {Q : Option Value → jm → Prop}
theorem jr.pop2 {x : Int64} (hi : m.2.2.2.2.2.2 pc = some .pop2) (k : jr A D m (pc + 1) ls st M Q) : jr A D m pc ls (.long x :: st) M Q := jr_sem hi (fun f => by simp [ix_sem, ix_ret, ix_alu, ix_len, Value.category]) k
end JP2
theorem rG_ne {a k : Nat} (h : rG a = true) (hk : rG k = false) : a ≠ k := fun e => by
  rw [e, hk] at h
  exact absurd h (by decide)
