/-! ===== what both sides keep between the law's calls ===== -/
def CV (M : jm) (L S : Int) : Prop := CI M ∧ LC M L ∧ PC M ∧ M 413 2 ≠ M 421 2 ∧ M 421 4 = 0 ∧ M 0 8 = S
def X7 (M : jm) : Prop := ∀ i : Int, 0 ≤ i → i < 100 → M 647 i = xcv_5 i
def RV (M : jm) (L S : Int) : Prop := RI M ∧ RH M ∧ RF M ∧ RG1 M ∧ FWq (M 650) ∧ MC M ∧ AS M L ∧ M 598 2 = S ∧ X7 M
theorem X7.fr {M M' : jm} (h : X7 M) (e : ∀ i : Int, M' 647 i = M 647 i) : X7 M' := fun i i0 i1 => (e i).trans (h i i0 i1)
theorem kd_hi {a : Nat} (h : 598 ≤ a) : kd a = 0 := by
  unfold kd
  rw [blt_f h]
  rfl
theorem rG_hi {a : Nat} (h : rG a = true) : 598 ≤ a := by
  cases hb : Nat.blt a 598 with
  | false =>
    rcases Nat.lt_or_ge a 598 with q | q
    · rw [Nat.blt_eq.mpr q] at hb
      exact absurd hb (by decide)
    · exact q
  | true =>
    have q := Nat.blt_eq.mp hb
    have e : ∀ k, 598 ≤ k → Nat.beq a k = false := fun k hk => by
      cases hq : Nat.beq a k with
      | false => rfl
      | true => have := Nat.eq_of_beq_eq_true hq; omega
    unfold rG at h
    rw [e 606 (by decide), e 607 (by decide), e 613 (by decide), e 617 (by decide), e 618 (by decide), e 619 (by decide), e 620 (by decide), e 621 (by decide)] at h
    exact absurd h (by decide)
theorem RV.tr {M M' : jm} {L S : Int} (h : RV M L S) (e : ∀ (a : Nat) (i : Int), 598 ≤ a → M' a i = M a i) : RV M' L S := by
  obtain ⟨h1, h2, h3, h4, h5, h6, h7, h8, h9⟩ := h
  exact ⟨fun a i ha => by rw [e a i ha]; exact h1 a i ha, fun j => by rw [e 603 j (by decide), e 604 j (by decide), e 605 j (by decide)]; exact h2 j, RF.fr h3 (fun f => e 629 f (by decide)) (fun f => e 638 f (by decide)), RG1.fr h4 (fun a i ha => e a i (rG_hi ha)), by rw [show M' 650 = M 650 from funext (fun i => e 650 i (by decide))]; exact h5, MC.fr h6 (fun i => e 652 i (by decide)) (fun i => e 653 i (by decide)) (fun i => e 654 i (by decide)) (fun i => e 655 i (by decide)) (e 598 82 (by decide)), AS.fr h7 (fun i => e 685 i (by decide)) (e 598 112 (by decide)), (e 598 2 (by decide)).trans h8, h9.fr (fun i => e 647 i (by decide))⟩
theorem CV.z {M M' : jm} {L S : Int} (h : CV M L S) (e : ∀ (a : Nat) (i : Int), a < 598 → M' a i = M a i) : CV M' L S := by
  obtain ⟨h1, h2, h4, h5, h6, h7⟩ := h
  have f : FR [(0, 1000)] M M' := fun a i hk => e a i (kd_lt (fun q => by
    rw [q] at hk
    have t : kw [(0, 1000)] 0 i = true := rfl
    rw [t] at hk
    exact absurd hk (by decide)))
  exact ⟨⟨fun a i ha => by rw [e a i (kd_lt ha)]; exact h1.1 a i ha, fun a i ha => by rw [e a i (kd_lt (fun q => ha (by rw [q]; rfl)))]; exact h1.2 a i ha⟩, h2.fr f rfl, h4.fr h1 f rfl, by rw [e 413 2 (by decide), e 421 2 (by decide)]; exact h5, (e 421 4 (by decide)).trans h6, (e 0 8 (by decide)).trans h7⟩
theorem CV.le {M : jm} {L L' S : Int} (h : CV M L S) (hl : L ≤ L') : CV M L' S := ⟨h.1, h.2.1.le hl, h.2.2⟩
theorem RV.le {M : jm} {L L' S : Int} (h : RV M L S) (hl : L ≤ L') : RV M L' S := ⟨h.1, h.2.1, h.2.2.1, h.2.2.2.1, h.2.2.2.2.1, h.2.2.2.2.2.1, h.2.2.2.2.2.2.1.up hl, h.2.2.2.2.2.2.2⟩
/-- the reference's cells alone -/
theorem RDA.rr {C R S : jm} (h : RDA C R) (hG : RG1 R) (hI : RI R) (e : ∀ (a : Nat) (i : Int), 598 ≤ a → S a i = R a i) : RDA C S :=
  ⟨h.1.r (fun i => e 599 i (by decide)) (e 598 1 (by decide)), h.2.1.r (fun a i h0 _ => e a i (by omega)), h.2.2.1.r (fun i _ _ => e 598 i (by decide)), h.2.2.2.1.r (fun i => e 622 i (by decide)) (e 598 34 (by decide)), h.2.2.2.2.1.r (fun a i h0 _ => e a i (by omega)), h.2.2.2.2.2.1.r (fun a i h0 _ => e a i (by omega)), h.2.2.2.2.2.2.r hG hI (fun a i h0 _ => e a i (by omega))⟩
theorem rf_hi {M M' : jm} (e : ∀ (a : Nat) (i : Int), 598 ≤ a → M' a i = M a i) : rf M = rf M' := funext (fun x => (rf_e (fun i => e 601 i (by decide))).symm)
theorem RDA.gok {C R : jm} (h : RDA C R) (hG : RG1 R) (hI : RI R) : GOK C := fun g g0 g1 u => by
  have q := h.2.2.2.2.2.2.2 g g0 g1
  rw [q.1] at u
  have l := q.2 u
  have z := (hG g g0 u).2
  have a : (-1 : Int) ≤ R 617 g ∧ R 617 g ≤ 400 := by have q := hI 617 g (by decide); rw [xri_row rfl rfl] at q; exact q
  refine ⟨l.2.2.1.2.2, ?_⟩
  by_cases c : R 617 g = -1
  · exact Or.inl (l.2.2.2.2.1.trans c)
  · obtain ⟨l1, l2, l3, l4⟩ := l.2.2.2.2.2 c
    have zz := z c
    refine Or.inr ⟨by rw [l.2.2.2.2.1]; omega, by rw [l2]; omega, ?_, fun k k0 k1 => ?_⟩
    · rcases l.2.1 with e | e
      · right
        rw [l.1.1, l.2.2.2.2.1, l2, e]
        have := l4 e
        unfold hlf
        rw [if_neg (by decide)]
        omega
      · left
        rw [l.1.1, e]
        decide
    · rw [l.2.2.2.2.1] at k1
      rw [l1 k k0 k1]
      have q := hI 618 (400 * g + k) (by decide)
      rw [xri_row rfl rfl] at q
      exact q
theorem RDA.gq6 {C R : jm} (h : RDA C R) : GQ6 R := fun g g0 g1 u => by
  have l := ((h.2.2.2.2.2.2.2 g g0 g1).2 u).2.2.1
  rw [l.1] at l
  rcases l.2.2 with e | e
  · refine Or.inl ⟨e, ?_⟩
    rw [l.2.1, e, rbf_n]
    unfold szf
    (repeat' split) <;> omega
  · exact Or.inr e
theorem rG_ne {a k : Nat} (h : rG a = true) (hk : rG k = false) : a ≠ k := fun e => by
  rw [e, hk] at h
  exact absurd h (by decide)
def W_all : List (Nat × Nat) := [(1, 1000), (2, 1000), (3, 1000), (4, 1000), (5, 1000), (6, 1000), (7, 1000), (8, 1000), (9, 1000), (10, 1000), (11, 1000), (12, 1000), (13, 1000), (14, 1000), (15, 1000), (16, 1000), (17, 1000), (18, 1000), (19, 1000), (20, 1000), (21, 1000), (22, 1000), (23, 1000), (24, 1000), (25, 1000), (26, 1000), (27, 1000), (28, 1000), (29, 1000), (30, 1000), (31, 1000), (32, 1000), (33, 1000), (34, 1000), (35, 1000), (36, 1000), (37, 1000), (38, 1000), (39, 1000), (40, 1000), (41, 1000), (42, 1000), (43, 1000), (44, 1000), (45, 1000), (46, 1000), (47, 1000), (48, 1000), (49, 1000), (50, 1000), (51, 1000), (52, 1000), (53, 1000), (54, 1000)]
section JP2
variable {A : Nat → Option (Nat × (Nat → Int32))} {D : Nat} {m : ix_M} {pc : Nat} {ls : ix_L} {st : List Value} {M : jm} {Q : Option Value → jm → Prop}
theorem jr.pop2 {x : Int64} (hi : m.2.2.2.2.2.2 pc = some .pop2) (k : jr A D m (pc + 1) ls st M Q) : jr A D m pc ls (.long x :: st) M Q := jr_sem hi (fun f => by simp [ix_sem, ix_ret, ix_alu, ix_len, Value.category]) k
end JP2
theorem oq_wrong {C R S : jm} (h : RDA C R) (hG : RG1 R) (hI : RI R) (hf : ∀ (a : Nat) (i : Int), a ≠ 603 → S a i = R a i) : RDA C S := ⟨((h.1).r (fun i => hf 599 i (by decide)) (hf 598 1 (by decide))), ((h.2.1).r (fun a i _ _ => hf a i (by omega))), ((h.2.2.1).r (fun i _ _ => (hf 598 i (by decide)))), ((h.2.2.2.1).r (fun i => hf 622 i (by decide)) (hf 598 34 (by decide))), ((h.2.2.2.2.1).r (fun a i _ _ => hf a i (by omega))), ((h.2.2.2.2.2.1).r (fun a i _ _ => hf a i (by omega))), ((h.2.2.2.2.2.2).r hG hI (fun a i _ _ => hf a i (by omega)))⟩
theorem oq_why {C R S : jm} (h : RDA C R) (hG : RG1 R) (hI : RI R) (hf : ∀ (a : Nat) (i : Int), a ≠ 603 → S a i = R a i) : RDA C S := ⟨((h.1).r (fun i => hf 599 i (by decide)) (hf 598 1 (by decide))), ((h.2.1).r (fun a i _ _ => hf a i (by omega))), ((h.2.2.1).r (fun i _ _ => (hf 598 i (by decide)))), ((h.2.2.2.1).r (fun i => hf 622 i (by decide)) (hf 598 34 (by decide))), ((h.2.2.2.2.1).r (fun a i _ _ => hf a i (by omega))), ((h.2.2.2.2.2.1).r (fun a i _ _ => hf a i (by omega))), ((h.2.2.2.2.2.2).r hG hI (fun a i _ _ => hf a i (by omega)))⟩
theorem oq_counter {C R S : jm} (h : RDA C R) (hG : RG1 R) (hI : RI R) (hf : ∀ (a : Nat) (i : Int), a ≠ 603 → S a i = R a i) : RDA C S := ⟨((h.1).r (fun i => hf 599 i (by decide)) (hf 598 1 (by decide))), ((h.2.1).r (fun a i _ _ => hf a i (by omega))), ((h.2.2.1).r (fun i _ _ => (hf 598 i (by decide)))), ((h.2.2.2.1).r (fun i => hf 622 i (by decide)) (hf 598 34 (by decide))), ((h.2.2.2.2.1).r (fun a i _ _ => hf a i (by omega))), ((h.2.2.2.2.2.1).r (fun a i _ _ => hf a i (by omega))), ((h.2.2.2.2.2.2).r hG hI (fun a i _ _ => hf a i (by omega)))⟩
theorem oq_logged {C R S : jm} (h : RDA C R) (hG : RG1 R) (hI : RI R) (hf : ∀ (a : Nat) (i : Int), a ≠ 603 → S a i = R a i) : RDA C S := ⟨((h.1).r (fun i => hf 599 i (by decide)) (hf 598 1 (by decide))), ((h.2.1).r (fun a i _ _ => hf a i (by omega))), ((h.2.2.1).r (fun i _ _ => (hf 598 i (by decide)))), ((h.2.2.2.1).r (fun i => hf 622 i (by decide)) (hf 598 34 (by decide))), ((h.2.2.2.2.1).r (fun a i _ _ => hf a i (by omega))), ((h.2.2.2.2.2.1).r (fun a i _ _ => hf a i (by omega))), ((h.2.2.2.2.2.2).r hG hI (fun a i _ _ => hf a i (by omega)))⟩
theorem oq_learned {C R S : jm} (h : RDA C R) (hG : RG1 R) (hI : RI R) (hf : ∀ (a : Nat) (i : Int), a ≠ 603 → S a i = R a i) : RDA C S := ⟨((h.1).r (fun i => hf 599 i (by decide)) (hf 598 1 (by decide))), ((h.2.1).r (fun a i _ _ => hf a i (by omega))), ((h.2.2.1).r (fun i _ _ => (hf 598 i (by decide)))), ((h.2.2.2.1).r (fun i => hf 622 i (by decide)) (hf 598 34 (by decide))), ((h.2.2.2.2.1).r (fun a i _ _ => hf a i (by omega))), ((h.2.2.2.2.2.1).r (fun a i _ _ => hf a i (by omega))), ((h.2.2.2.2.2.2).r hG hI (fun a i _ _ => hf a i (by omega)))⟩
theorem oq_rowAt {C R S : jm} (h : RDA C R) (hG : RG1 R) (hI : RI R) (hf : ∀ (a : Nat) (i : Int), a ≠ 603 → S a i = R a i) : RDA C S := ⟨((h.1).r (fun i => hf 599 i (by decide)) (hf 598 1 (by decide))), ((h.2.1).r (fun a i _ _ => hf a i (by omega))), ((h.2.2.1).r (fun i _ _ => (hf 598 i (by decide)))), ((h.2.2.2.1).r (fun i => hf 622 i (by decide)) (hf 598 34 (by decide))), ((h.2.2.2.2.1).r (fun a i _ _ => hf a i (by omega))), ((h.2.2.2.2.2.1).r (fun a i _ _ => hf a i (by omega))), ((h.2.2.2.2.2.2).r hG hI (fun a i _ _ => hf a i (by omega)))⟩
theorem oq_has {C R S : jm} (h : RDA C R) (hG : RG1 R) (hI : RI R) (hf : ∀ (a : Nat) (i : Int), a ≠ 603 → S a i = R a i) : RDA C S := ⟨((h.1).r (fun i => hf 599 i (by decide)) (hf 598 1 (by decide))), ((h.2.1).r (fun a i _ _ => hf a i (by omega))), ((h.2.2.1).r (fun i _ _ => (hf 598 i (by decide)))), ((h.2.2.2.1).r (fun i => hf 622 i (by decide)) (hf 598 34 (by decide))), ((h.2.2.2.2.1).r (fun a i _ _ => hf a i (by omega))), ((h.2.2.2.2.2.1).r (fun a i _ _ => hf a i (by omega))), ((h.2.2.2.2.2.2).r hG hI (fun a i _ _ => hf a i (by omega)))⟩
theorem oq_mark {C R S : jm} (h : RDA C R) (hG : RG1 R) (hI : RI R) (hf : ∀ (a : Nat) (i : Int), a ≠ 603 → S a i = R a i) : RDA C S := ⟨((h.1).r (fun i => hf 599 i (by decide)) (hf 598 1 (by decide))), ((h.2.1).r (fun a i _ _ => hf a i (by omega))), ((h.2.2.1).r (fun i _ _ => (hf 598 i (by decide)))), ((h.2.2.2.1).r (fun i => hf 622 i (by decide)) (hf 598 34 (by decide))), ((h.2.2.2.2.1).r (fun a i _ _ => hf a i (by omega))), ((h.2.2.2.2.2.1).r (fun a i _ _ => hf a i (by omega))), ((h.2.2.2.2.2.2).r hG hI (fun a i _ _ => hf a i (by omega)))⟩
theorem oq_told {C R S : jm} (h : RDA C R) (hG : RG1 R) (hI : RI R) (hf : ∀ (a : Nat) (i : Int), a ≠ 603 → S a i = R a i) : RDA C S := ⟨((h.1).r (fun i => hf 599 i (by decide)) (hf 598 1 (by decide))), ((h.2.1).r (fun a i _ _ => hf a i (by omega))), ((h.2.2.1).r (fun i _ _ => (hf 598 i (by decide)))), ((h.2.2.2.1).r (fun i => hf 622 i (by decide)) (hf 598 34 (by decide))), ((h.2.2.2.2.1).r (fun a i _ _ => hf a i (by omega))), ((h.2.2.2.2.2.1).r (fun a i _ _ => hf a i (by omega))), ((h.2.2.2.2.2.2).r hG hI (fun a i _ _ => hf a i (by omega)))⟩
theorem oq_digest {C R S : jm} (h : RDA C R) (hG : RG1 R) (hI : RI R) (hf : ∀ (a : Nat) (i : Int), a ≠ 603 → S a i = R a i) : RDA C S := ⟨((h.1).r (fun i => hf 599 i (by decide)) (hf 598 1 (by decide))), ((h.2.1).r (fun a i _ _ => hf a i (by omega))), ((h.2.2.1).r (fun i _ _ => (hf 598 i (by decide)))), ((h.2.2.2.1).r (fun i => hf 622 i (by decide)) (hf 598 34 (by decide))), ((h.2.2.2.2.1).r (fun a i _ _ => hf a i (by omega))), ((h.2.2.2.2.2.1).r (fun a i _ _ => hf a i (by omega))), ((h.2.2.2.2.2.2).r hG hI (fun a i _ _ => hf a i (by omega)))⟩
theorem oq_bucket {C D R S : jm} (h : RDA C R) (hG : RG1 R) (hI : RI R) (f : FR W_c_PacketWall_bucket C D) (hf : ∀ (a : Nat) (i : Int), a ≠ 623 → a ≠ 624 → a ≠ 625 → a ≠ 626 → S a i = R a i) : RDA D S := ⟨((h.1.f f rfl).r (fun i => hf 599 i (by decide) (by decide) (by decide) (by decide)) (hf 598 1 (by decide) (by decide) (by decide) (by decide))), ((h.2.1.f f rfl).r (fun a i _ _ => hf a i (by omega) (by omega) (by omega) (by omega))), ((h.2.2.1.f f rfl).r (fun i _ _ => (hf 598 i (by decide) (by decide) (by decide) (by decide)))), ((h.2.2.2.1.f f rfl).r (fun i => hf 622 i (by decide) (by decide) (by decide) (by decide)) (hf 598 34 (by decide) (by decide) (by decide) (by decide))), ((h.2.2.2.2.1.f f rfl).r (fun a i _ _ => hf a i (by omega) (by omega) (by omega) (by omega))), ((h.2.2.2.2.2.1.f f rfl).r (fun a i _ _ => hf a i (by omega) (by omega) (by omega) (by omega))), ((h.2.2.2.2.2.2.f f rfl).r hG hI (fun a i _ _ => hf a i (by omega) (by omega) (by omega) (by omega)))⟩
theorem oq_rules {C D R S : jm} (h : RDA C R) (hG : RG1 R) (hI : RI R) (f : FR W_c_PacketWall_rules_o C D) (p : D 0 1 = 0) (q : S 598 1 = 0) (hf : ∀ (a : Nat) (i : Int), a ≠ 598 → a ≠ 651 → a ≠ 652 → a ≠ 653 → a ≠ 654 → a ≠ 655 → a ≠ 656 → a ≠ 657 → a ≠ 658 → a ≠ 659 → a ≠ 660 → a ≠ 661 → a ≠ 662 → a ≠ 663 → a ≠ 664 → a ≠ 665 → a ≠ 666 → a ≠ 667 → a ≠ 668 → a ≠ 669 → S a i = R a i) (hk : ∀ (i : Int), i ≠ 1 → i ≠ 72 → i ≠ 73 → i ≠ 74 → i ≠ 75 → i ≠ 76 → i ≠ 77 → i ≠ 78 → i ≠ 79 → i ≠ 80 → i ≠ 81 → i ≠ 82 → i ≠ 83 → i ≠ 88 → i ≠ 89 → i ≠ 90 → i ≠ 96 → i ≠ 100 → i ≠ 101 → i ≠ 102 → i ≠ 107 → S 598 i = R 598 i) : RDA D S := by
  have e1 : D 1 = C 1 := funext (fun i => f.g (show kd 1 = 43 from rfl) rfl)
  have e2 : S 599 = R 599 := funext (fun i => hf 599 i (by decide) (by decide) (by decide) (by decide) (by decide) (by decide) (by decide) (by decide) (by decide) (by decide) (by decide) (by decide) (by decide) (by decide) (by decide) (by decide) (by decide) (by decide) (by decide) (by decide))
  exact ⟨⟨by rw [e1, e2]; exact h.1.1, by rw [p, q]⟩, ((h.2.1.f f rfl).r (fun a i _ _ => hf a i (by omega) (by omega) (by omega) (by omega) (by omega) (by omega) (by omega) (by omega) (by omega) (by omega) (by omega) (by omega) (by omega) (by omega) (by omega) (by omega) (by omega) (by omega) (by omega) (by omega))), ((h.2.2.1.f f rfl).r (fun i _ _ => (hk i (by omega) (by omega) (by omega) (by omega) (by omega) (by omega) (by omega) (by omega) (by omega) (by omega) (by omega) (by omega) (by omega) (by omega) (by omega) (by omega) (by omega) (by omega) (by omega) (by omega) (by omega)))), ((h.2.2.2.1.f f rfl).r (fun i => hf 622 i (by decide) (by decide) (by decide) (by decide) (by decide) (by decide) (by decide) (by decide) (by decide) (by decide) (by decide) (by decide) (by decide) (by decide) (by decide) (by decide) (by decide) (by decide) (by decide) (by decide)) (hk 34 (by decide) (by decide) (by decide) (by decide) (by decide) (by decide) (by decide) (by decide) (by decide) (by decide) (by decide) (by decide) (by decide) (by decide) (by decide) (by decide) (by decide) (by decide) (by decide) (by decide) (by decide))), ((h.2.2.2.2.1.f f rfl).r (fun a i _ _ => hf a i (by omega) (by omega) (by omega) (by omega) (by omega) (by omega) (by omega) (by omega) (by omega) (by omega) (by omega) (by omega) (by omega) (by omega) (by omega) (by omega) (by omega) (by omega) (by omega) (by omega))), ((h.2.2.2.2.2.1.f f rfl).r (fun a i _ _ => hf a i (by omega) (by omega) (by omega) (by omega) (by omega) (by omega) (by omega) (by omega) (by omega) (by omega) (by omega) (by omega) (by omega) (by omega) (by omega) (by omega) (by omega) (by omega) (by omega) (by omega))), ((h.2.2.2.2.2.2.f f rfl).r hG hI (fun a i _ _ => hf a i (by omega) (by omega) (by omega) (by omega) (by omega) (by omega) (by omega) (by omega) (by omega) (by omega) (by omega) (by omega) (by omega) (by omega) (by omega) (by omega) (by omega) (by omega) (by omega) (by omega)))⟩
theorem oq_verdict {C D R S : jm} (h : RDA C R) (hG : RG1 R) (hI : RI R) (f : FR W_c_PacketWall_verdict_o C D) (p : OL C D) (hf : ∀ (a : Nat) (i : Int), a ≠ 598 → a ≠ 602 → a ≠ 603 → a ≠ 604 → a ≠ 605 → a ≠ 624 → a ≠ 670 → a ≠ 671 → a ≠ 672 → a ≠ 673 → a ≠ 674 → a ≠ 675 → a ≠ 676 → a ≠ 677 → a ≠ 678 → a ≠ 679 → a ≠ 680 → a ≠ 681 → a ≠ 682 → a ≠ 683 → a ≠ 684 → a ≠ 685 → a ≠ 686 → a ≠ 687 → S a i = R a i) (hk : ∀ (i : Int), i ≠ 6 → i ≠ 10 → i ≠ 11 → i ≠ 12 → i ≠ 59 → i ≠ 60 → i ≠ 61 → i ≠ 62 → i ≠ 63 → i ≠ 64 → i ≠ 65 → i ≠ 66 → i ≠ 110 → i ≠ 111 → i ≠ 112 → i ≠ 122 → i ≠ 131 → i ≠ 132 → i ≠ 133 → i ≠ 134 → i ≠ 135 → i ≠ 136 → i ≠ 137 → i ≠ 138 → i ≠ 139 → i ≠ 140 → i ≠ 141 → i ≠ 142 → i ≠ 143 → i ≠ 144 → i ≠ 145 → i ≠ 147 → S 598 i = R 598 i) : RDA D S := ⟨((h.1.f f rfl).r (fun i => hf 599 i (by decide) (by decide) (by decide) (by decide) (by decide) (by decide) (by decide) (by decide) (by decide) (by decide) (by decide) (by decide) (by decide) (by decide) (by decide) (by decide) (by decide) (by decide) (by decide) (by decide) (by decide) (by decide) (by decide) (by decide)) (hk 1 (by decide) (by decide) (by decide) (by decide) (by decide) (by decide) (by decide) (by decide) (by decide) (by decide) (by decide) (by decide) (by decide) (by decide) (by decide) (by decide) (by decide) (by decide) (by decide) (by decide) (by decide) (by decide) (by decide) (by decide) (by decide) (by decide) (by decide) (by decide) (by decide) (by decide) (by decide) (by decide))), ((h.2.1.f f rfl).r (fun a i _ _ => hf a i (by omega) (by omega) (by omega) (by omega) (by omega) (by omega) (by omega) (by omega) (by omega) (by omega) (by omega) (by omega) (by omega) (by omega) (by omega) (by omega) (by omega) (by omega) (by omega) (by omega) (by omega) (by omega) (by omega) (by omega))), ((h.2.2.1.f f rfl).r (fun i _ _ => (hk i (by omega) (by omega) (by omega) (by omega) (by omega) (by omega) (by omega) (by omega) (by omega) (by omega) (by omega) (by omega) (by omega) (by omega) (by omega) (by omega) (by omega) (by omega) (by omega) (by omega) (by omega) (by omega) (by omega) (by omega) (by omega) (by omega) (by omega) (by omega) (by omega) (by omega) (by omega) (by omega)))), ((h.2.2.2.1.f f rfl).r (fun i => hf 622 i (by decide) (by decide) (by decide) (by decide) (by decide) (by decide) (by decide) (by decide) (by decide) (by decide) (by decide) (by decide) (by decide) (by decide) (by decide) (by decide) (by decide) (by decide) (by decide) (by decide) (by decide) (by decide) (by decide) (by decide)) (hk 34 (by decide) (by decide) (by decide) (by decide) (by decide) (by decide) (by decide) (by decide) (by decide) (by decide) (by decide) (by decide) (by decide) (by decide) (by decide) (by decide) (by decide) (by decide) (by decide) (by decide) (by decide) (by decide) (by decide) (by decide) (by decide) (by decide) (by decide) (by decide) (by decide) (by decide) (by decide) (by decide))), ((h.2.2.2.2.1.f f rfl).r (fun a i _ _ => hf a i (by omega) (by omega) (by omega) (by omega) (by omega) (by omega) (by omega) (by omega) (by omega) (by omega) (by omega) (by omega) (by omega) (by omega) (by omega) (by omega) (by omega) (by omega) (by omega) (by omega) (by omega) (by omega) (by omega) (by omega))), ((h.2.2.2.2.2.1.e p (f.g (show kd 15 = 9 from rfl) rfl) (f.g (show kd 15 = 9 from rfl) rfl)).r (fun a i _ _ => hf a i (by omega) (by omega) (by omega) (by omega) (by omega) (by omega) (by omega) (by omega) (by omega) (by omega) (by omega) (by omega) (by omega) (by omega) (by omega) (by omega) (by omega) (by omega) (by omega) (by omega) (by omega) (by omega) (by omega) (by omega))), ((h.2.2.2.2.2.2.f f rfl).r hG hI (fun a i _ _ => hf a i (by omega) (by omega) (by omega) (by omega) (by omega) (by omega) (by omega) (by omega) (by omega) (by omega) (by omega) (by omega) (by omega) (by omega) (by omega) (by omega) (by omega) (by omega) (by omega) (by omega) (by omega) (by omega) (by omega) (by omega)))⟩
