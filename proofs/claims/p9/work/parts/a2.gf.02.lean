section
theorem l6x_e {R S : jm} {j : Int} (h2 : S 632 j = R 632 j) (h3 : S 633 j = R 633 j) : l6x S j = l6x R j := by
  unfold l6x
  rw [h2, h3]
theorem FL.r {C R S : jm} {t : Nat} {f : Int} (h : FL C R t f) (e1 : ∀ b : Nat, (b = 628 ∨ b = 629 ∨ b = 638 ∨ b = 639 ∨ b = 640 ∨ b = 641 ∨ b = 642) → S b f = R b f) (e2 : ∀ (b : Nat) (s : Int), 630 ≤ b → b ≤ 637 → 0 ≤ s → s < 2 → S b (2 * f + s) = R b (2 * f + s)) : FL C S t f := by
  obtain ⟨h1, h2, h3, h4, h5⟩ := h
  have z0 := fun b h0 h1 => e2 b 0 h0 h1 (by decide) (by decide)
  have z1 := fun b h0 h1 => e2 b 1 h0 h1 (by decide) (by decide)
  simp only [Int.add_zero] at z0
  refine ⟨?_, fun s s0 s1 => ?_, ?_, ?_, ?_⟩
  · rw [e1 628 (by decide), e1 629 (by decide), e1 638 (by decide), e1 639 (by decide), e1 640 (by decide)]; exact h1
  · rw [e2 630 s (by decide) (by decide) s0 s1, e2 631 s (by decide) (by decide) s0 s1, e2 635 s (by decide) (by decide) s0 s1, e2 636 s (by decide) (by decide) s0 s1, e2 637 s (by decide) (by decide) s0 s1, l6x_e (e2 632 s (by decide) (by decide) s0 s1) (e2 633 s (by decide) (by decide) s0 s1), e2 632 s (by decide) (by decide) s0 s1]; exact h2 s s0 s1
  · rw [z1 634 (by decide) (by decide), z0 634 (by decide) (by decide)]; exact h3
  · rw [e1 640 (by decide), e1 641 (by decide), e1 642 (by decide), e1 628 (by decide), e1 629 (by decide)]; exact h4
  · rw [e1 629 (by decide), e1 638 (by decide)]; exact h5
theorem RDw.r {C R S : jm} (h : RDw C R) (e : ∀ (a : Nat) (i : Int), 627 ≤ a → a ≤ 642 → S a i = R a i) : RDw C S := ⟨h.1, fun f f0 f1 => by
  have q := h.2 f f0 f1
  refine ⟨by rw [e 627 f (by decide) (by decide)]; exact q.1, fun u => ?_⟩
  rw [e 627 f (by decide) (by decide)] at u
  exact (q.2 u).r (fun b hb => e b f (by omega) (by omega)) (fun b s b0 b1 _ _ => e b _ (by omega) (by omega))⟩
theorem wR_e {R S : jm} {g : Int} (h : ∀ k : Int, 0 ≤ k → k < 360 → S 615 (360 * g + k) = R 615 (360 * g + k) ∧ S 616 (360 * g + k) = R 616 (360 * g + k)) {k : Int} (k0 : 0 ≤ k) (k1 : k < 360) : wR S g k = wR R g k := by
  unfold wR
  rw [(h k k0 k1).1, (h k k0 k1).2]
theorem lpf_m (w : Int) : lpf w ≤ 360 := by
  unfold lpf
  (repeat' split) <;> omega
/-- a live gathering whose cells of the reference are as they were -/
theorem GL.r {C R S : jm} {G : Nat} {g : Int} (h : GL C R G g) (hr : R 617 g ≤ 400) (hq : R 617 g ≠ -1 → (0 ≤ R 621 g ∧ R 621 g < 400) ∧ (0 ≤ R 619 g ∧ R 619 g < 400)) (e1 : ∀ b : Nat, 607 ≤ b → b ≤ 621 → b ≠ 615 → b ≠ 616 → b ≠ 618 → S b g = R b g) (e5 : ∀ k : Int, 0 ≤ k → k < 360 → S 615 (360 * g + k) = R 615 (360 * g + k) ∧ S 616 (360 * g + k) = R 616 (360 * g + k)) (e8 : ∀ k : Int, 0 ≤ k → k < 400 → S 618 (400 * g + k) = R 618 (400 * g + k)) : GL C S G g := by
  obtain ⟨h1, h2, h3, h4, h5, h6⟩ := h
  refine ⟨?_, ?_, ?_, fun k k0 k1 => ?_, ?_, fun u => ?_⟩
  · rw [e1 607 (by decide) (by decide) (by decide) (by decide) (by decide), e1 608 (by decide) (by decide) (by decide) (by decide) (by decide), e1 609 (by decide) (by decide) (by decide) (by decide) (by decide), e1 610 (by decide) (by decide) (by decide) (by decide) (by decide), e1 611 (by decide) (by decide) (by decide) (by decide) (by decide), e1 612 (by decide) (by decide) (by decide) (by decide) (by decide)]; exact h1
  · rw [e1 607 (by decide) (by decide) (by decide) (by decide) (by decide)]; exact h2
  · rw [e1 614 (by decide) (by decide) (by decide) (by decide) (by decide), e1 613 (by decide) (by decide) (by decide) (by decide) (by decide)]; exact h3
  · have := lpf_m (C G 7)
    rw [wR_e e5 k0 (by omega)]; exact h4 k k0 k1
  · rw [e1 617 (by decide) (by decide) (by decide) (by decide) (by decide)]; exact h5
  · rw [e1 617 (by decide) (by decide) (by decide) (by decide) (by decide)] at u ⊢
    obtain ⟨g1, g2, g3, g4⟩ := h6 u
    have r := hq u
    rw [e1 621 (by decide) (by decide) (by decide) (by decide) (by decide), e1 607 (by decide) (by decide) (by decide) (by decide) (by decide), e1 620 (by decide) (by decide) (by decide) (by decide) (by decide), e1 619 (by decide) (by decide) (by decide) (by decide) (by decide), e1 611 (by decide) (by decide) (by decide) (by decide) (by decide), e8 _ r.2.1 r.2.2, e8 _ r.1.1 r.1.2]
    exact ⟨fun k k0 k1 => by rw [e8 k k0 (by omega)]; exact g1 k k0 k1, g2, g3, g4⟩
theorem RG1.q {R : jm} (h : RG1 R) (hI : RI R) {g : Int} (g0 : 0 ≤ g) (u : R 606 g ≠ 0) : R 617 g ≤ 400 ∧ (R 617 g ≠ -1 → (0 ≤ R 621 g ∧ R 621 g < 400) ∧ (0 ≤ R 619 g ∧ R 619 g < 400)) := by
  have a : (-1 : Int) ≤ R 617 g ∧ R 617 g ≤ 400 := by have q := hI 617 g (by decide); rw [xri_row rfl rfl] at q; exact q
  have b : (0 : Int) ≤ R 619 g ∧ R 619 g ≤ 400 := by have q := hI 619 g (by decide); rw [xri_row rfl rfl] at q; exact q
  refine ⟨a.2, fun v => ?_⟩
  have q := (h g g0 u).2 v
  omega
theorem UN.r {R S : jm} (h : UN R) (e : ∀ (a : Nat) (i : Int), 606 ≤ a → a ≤ 611 → S a i = R a i) : UN S := fun g k g0 g1 k0 k1 u v w => by
  rw [e 606 _ (by decide) (by decide)] at u v
  rw [e 607 _ (by decide) (by decide), e 607 _ (by decide) (by decide), e 608 _ (by decide) (by decide), e 608 _ (by decide) (by decide), e 609 _ (by decide) (by decide), e 609 _ (by decide) (by decide), e 610 _ (by decide) (by decide), e 610 _ (by decide) (by decide), e 611 _ (by decide) (by decide), e 611 _ (by decide) (by decide)] at w
  exact h g k g0 g1 k0 k1 u v w
theorem RDg.r {C R S : jm} (h : RDg C R) (hG : RG1 R) (hI : RI R) (e : ∀ (a : Nat) (i : Int), 606 ≤ a → a ≤ 621 → S a i = R a i) : RDg C S := by
  refine ⟨h.1.r (fun a i h0 h1 => e a i h0 (by omega)), fun g g0 g1 => ?_⟩
  have q := h.2 g g0 g1
  refine ⟨by rw [e 606 g (by decide) (by decide)]; exact q.1, fun u => ?_⟩
  rw [e 606 g (by decide) (by decide)] at u
  have z := RG1.q hG hI g0 u
  exact (q.2 u).r z.1 z.2 (fun b b0 b1 _ _ _ => e b g (by omega) b1) (fun k _ _ => ⟨e 615 _ (by decide) (by decide), e 616 _ (by decide) (by decide)⟩) (fun k _ _ => e 618 _ (by decide) (by decide))
theorem RDp.b {C R : jm} (h : RDp C R) (hI : RI R) : PBS C (rf R) := fun p p0 p1 i i0 i1 => ⟨(h p p0 p1).2 i i0 i1, rf_r hI p i⟩
/-- the class's cells alone -/
theorem RDA.c {C D R : jm} (h : RDA C R) (e : ∀ (a : Nat) (i : Int), a < 598 → D a i = C a i)   : RDA D R := by
  have f : FR [(0, 1000)] C D := fun a i hk => e a i (kd_lt (fun q => by
    rw [q] at hk
    have t : kw [(0, 1000)] 0 i = true := rfl
    rw [t] at hk
    exact absurd hk (by decide)))
  obtain ⟨h1, h2, h3, h4, h5, h6, h7⟩ := h
  exact ⟨h1.f f rfl, h2.f f rfl, h3.f f rfl, h4.f f rfl, h5.f f rfl, h6.f f rfl, h7.f f rfl⟩
end
section
/-! ===== both sides answer alike: headers, tape, packets ===== -/
theorem hsF_n (f : Int → Int) (n c bk k a : Int) : 0 ≤ hsF f n c bk k a := by
  unfold hsF
  (repeat' split) <;> omega
theorem hF_n (f : Int → Int) (N i : Int) : 0 ≤ hF f N i := hsF_n _ _ _ _ _ _
theorem op_kind {C D R S : jm} {r r2 : Int} (h : RDA C R) (hG : RG1 R) (hI : RI R) {x y z : Int} (f : FR W_c_PacketWall_kind_x C D) (p : (((x < 0 ∨ 23 < x ∨ C (xe 2 x) 1 = -1) ∧ r = -2) ∨ (((0 ≤ x ∧ x ≤ 23) ∧ C (xe 2 x) 1 ≠ -1) ∧ ∃ C_ : Int, HE (rf R x) (C (xe 2 x) 1) C_ ∧ r = kA (rf R x) (C (xe 2 x) 1) C_ y))) (q : (((x < 0 ∨ 23 < x ∨ R 600 x = -1) ∧ r2 = -2) ∨ (((0 ≤ x ∧ x ≤ 23) ∧ R 600 x ≠ -1) ∧ ∃ C_ : Int, HE (rf R x) (R 600 x) C_ ∧ r2 = kA (rf R x) (R 600 x) C_ y))) (hf : ∀ (a : Nat) (i : Int), a ≠ 598 → a ≠ 603 → a ≠ 604 → a ≠ 605 → S a i = R a i) (hk : ∀ (i : Int), i ≠ 6 → i ≠ 10 → i ≠ 11 → i ≠ 12 → S 598 i = R 598 i) : RDA D S ∧ r = r2 := by
  refine ⟨⟨((h.1.f f rfl).r (fun i => hf 599 i (by decide) (by decide) (by decide) (by decide)) (hk 1 (by decide) (by decide) (by decide) (by decide))), ((h.2.1.f f rfl).r (fun a i _ _ => hf a i (by omega) (by omega) (by omega) (by omega))), ((h.2.2.1.f f rfl).r (fun i _ _ => (hk i (by omega) (by omega) (by omega) (by omega)))), ((h.2.2.2.1.f f rfl).r (fun i => hf 622 i (by decide) (by decide) (by decide) (by decide)) (hk 34 (by decide) (by decide) (by decide) (by decide))), ((h.2.2.2.2.1.f f rfl).r (fun a i _ _ => hf a i (by omega) (by omega) (by omega) (by omega))), ((h.2.2.2.2.2.1.f f rfl).r (fun a i _ _ => hf a i (by omega) (by omega) (by omega) (by omega))), ((h.2.2.2.2.2.2.f f rfl).r hG hI (fun a i _ _ => hf a i (by omega) (by omega) (by omega) (by omega)))⟩, ?_⟩
  by_cases hx : 0 ≤ x ∧ x ≤ 23
  · have hN := (h.2.1 x (by omega) (by omega)).1
    rw [hN] at p
    rcases p with p | ⟨p0, c1, p1, p2⟩ <;> rcases q with q | ⟨q0, c2, q1, q2⟩
    · omega
    · exact absurd p.1 (by omega)
    · exact absurd q.1 (by omega)
    · have e := HE.u p1 q1
      subst e
      rw [p2, q2]
  · rcases p with p | p <;> rcases q with q | q
    · omega
    · exact absurd q.1.1 hx
    · exact absurd p.1.1 hx
    · exact absurd p.1.1 hx
theorem op_place {C D R S : jm} {r r2 : Int} (h : RDA C R) (hG : RG1 R) (hI : RI R) {x y z : Int} (f : FR W_c_PacketWall_place_x C D) (p : (((x < 0 ∨ 23 < x ∨ C (xe 2 x) 1 = -1) ∧ r = -2) ∨ (((0 ≤ x ∧ x ≤ 23) ∧ C (xe 2 x) 1 ≠ -1) ∧ ∃ C_ : Int, HE (rf R x) (C (xe 2 x) 1) C_ ∧ r = pA (rf R x) (C (xe 2 x) 1) C_ y))) (q : (((x < 0 ∨ 23 < x ∨ R 600 x = -1) ∧ r2 = -2) ∨ (((0 ≤ x ∧ x ≤ 23) ∧ R 600 x ≠ -1) ∧ ∃ C_ : Int, HE (rf R x) (R 600 x) C_ ∧ r2 = pA (rf R x) (R 600 x) C_ y))) (hf : ∀ (a : Nat) (i : Int), a ≠ 598 → a ≠ 603 → a ≠ 604 → a ≠ 605 → S a i = R a i) (hk : ∀ (i : Int), i ≠ 6 → i ≠ 10 → i ≠ 11 → i ≠ 12 → S 598 i = R 598 i) : RDA D S ∧ r = r2 := by
  refine ⟨⟨((h.1.f f rfl).r (fun i => hf 599 i (by decide) (by decide) (by decide) (by decide)) (hk 1 (by decide) (by decide) (by decide) (by decide))), ((h.2.1.f f rfl).r (fun a i _ _ => hf a i (by omega) (by omega) (by omega) (by omega))), ((h.2.2.1.f f rfl).r (fun i _ _ => (hk i (by omega) (by omega) (by omega) (by omega)))), ((h.2.2.2.1.f f rfl).r (fun i => hf 622 i (by decide) (by decide) (by decide) (by decide)) (hk 34 (by decide) (by decide) (by decide) (by decide))), ((h.2.2.2.2.1.f f rfl).r (fun a i _ _ => hf a i (by omega) (by omega) (by omega) (by omega))), ((h.2.2.2.2.2.1.f f rfl).r (fun a i _ _ => hf a i (by omega) (by omega) (by omega) (by omega))), ((h.2.2.2.2.2.2.f f rfl).r hG hI (fun a i _ _ => hf a i (by omega) (by omega) (by omega) (by omega)))⟩, ?_⟩
  by_cases hx : 0 ≤ x ∧ x ≤ 23
  · have hN := (h.2.1 x (by omega) (by omega)).1
    rw [hN] at p
    rcases p with p | ⟨p0, c1, p1, p2⟩ <;> rcases q with q | ⟨q0, c2, q1, q2⟩
    · omega
    · exact absurd p.1 (by omega)
    · exact absurd q.1 (by omega)
    · have e := HE.u p1 q1
      subst e
      rw [p2, q2]
  · rcases p with p | p <;> rcases q with q | q
    · omega
    · exact absurd q.1.1 hx
    · exact absurd p.1.1 hx
    · exact absurd p.1.1 hx
theorem op_field {C D R S : jm} {r r2 : Int} (h : RDA C R) (hG : RG1 R) (hI : RI R) {x y z : Int} (f : FR W_c_PacketWall_field_x C D) (p : (((x < 0 ∨ 23 < x ∨ C (xe 2 x) 1 = -1) ∧ r = -2) ∨ (((0 ≤ x ∧ x ≤ 23) ∧ C (xe 2 x) 1 ≠ -1) ∧ ∃ C_ : Int, HE (rf R x) (C (xe 2 x) 1) C_ ∧ r = vA (rf R x) (C (xe 2 x) 1) C_ y z))) (q : (((x < 0 ∨ 23 < x ∨ R 600 x = -1) ∧ r2 = -2) ∨ (((0 ≤ x ∧ x ≤ 23) ∧ R 600 x ≠ -1) ∧ ∃ C_ : Int, HE (rf R x) (R 600 x) C_ ∧ r2 = vA (rf R x) (R 600 x) C_ y z))) (hf : ∀ (a : Nat) (i : Int), a ≠ 598 → a ≠ 603 → a ≠ 604 → a ≠ 605 → S a i = R a i) (hk : ∀ (i : Int), i ≠ 6 → i ≠ 10 → i ≠ 11 → i ≠ 12 → S 598 i = R 598 i) : RDA D S ∧ r = r2 := by
  refine ⟨⟨((h.1.f f rfl).r (fun i => hf 599 i (by decide) (by decide) (by decide) (by decide)) (hk 1 (by decide) (by decide) (by decide) (by decide))), ((h.2.1.f f rfl).r (fun a i _ _ => hf a i (by omega) (by omega) (by omega) (by omega))), ((h.2.2.1.f f rfl).r (fun i _ _ => (hk i (by omega) (by omega) (by omega) (by omega)))), ((h.2.2.2.1.f f rfl).r (fun i => hf 622 i (by decide) (by decide) (by decide) (by decide)) (hk 34 (by decide) (by decide) (by decide) (by decide))), ((h.2.2.2.2.1.f f rfl).r (fun a i _ _ => hf a i (by omega) (by omega) (by omega) (by omega))), ((h.2.2.2.2.2.1.f f rfl).r (fun a i _ _ => hf a i (by omega) (by omega) (by omega) (by omega))), ((h.2.2.2.2.2.2.f f rfl).r hG hI (fun a i _ _ => hf a i (by omega) (by omega) (by omega) (by omega)))⟩, ?_⟩
  by_cases hx : 0 ≤ x ∧ x ≤ 23
  · have hN := (h.2.1 x (by omega) (by omega)).1
    rw [hN] at p
    rcases p with p | ⟨p0, c1, p1, p2⟩ <;> rcases q with q | ⟨q0, c2, q1, q2⟩
    · omega
    · exact absurd p.1 (by omega)
    · exact absurd q.1 (by omega)
    · have e := HE.u p1 q1
      subst e
      rw [p2, q2]
  · rcases p with p | p <;> rcases q with q | q
    · omega
    · exact absurd q.1.1 hx
    · exact absurd p.1.1 hx
    · exact absurd p.1.1 hx
theorem op_sum {C D R S : jm} {r r2 : Int} (h : RDA C R) (hG : RG1 R) (hI : RI R) {x y z : Int} (f : FR W_c_PacketWall_sum_x C D) (p : (((x < 0 ∨ 23 < x ∨ C (xe 2 x) 1 = -1) ∧ r = -2) ∨ (((0 ≤ x ∧ x ≤ 23) ∧ C (xe 2 x) 1 ≠ -1) ∧ ∃ C_ : Int, HE (rf R x) (C (xe 2 x) 1) C_ ∧ r = dS (rf R x) (rf R x) (C (xe 2 x) 1) C_ y))) (q : (((x < 0 ∨ 23 < x ∨ R 600 x = -1) ∧ r2 = -2) ∨ (((0 ≤ x ∧ x ≤ 23) ∧ R 600 x ≠ -1) ∧ ∃ C_ : Int, HE (rf R x) (R 600 x) C_ ∧ r2 = dS (rf R x) (rf R x) (R 600 x) C_ y))) (hf : ∀ (a : Nat) (i : Int), a ≠ 598 → a ≠ 603 → a ≠ 604 → a ≠ 605 → S a i = R a i) (hk : ∀ (i : Int), i ≠ 6 → i ≠ 10 → i ≠ 11 → i ≠ 12 → S 598 i = R 598 i) : RDA D S ∧ r = r2 := by
  refine ⟨⟨((h.1.f f rfl).r (fun i => hf 599 i (by decide) (by decide) (by decide) (by decide)) (hk 1 (by decide) (by decide) (by decide) (by decide))), ((h.2.1.f f rfl).r (fun a i _ _ => hf a i (by omega) (by omega) (by omega) (by omega))), ((h.2.2.1.f f rfl).r (fun i _ _ => (hk i (by omega) (by omega) (by omega) (by omega)))), ((h.2.2.2.1.f f rfl).r (fun i => hf 622 i (by decide) (by decide) (by decide) (by decide)) (hk 34 (by decide) (by decide) (by decide) (by decide))), ((h.2.2.2.2.1.f f rfl).r (fun a i _ _ => hf a i (by omega) (by omega) (by omega) (by omega))), ((h.2.2.2.2.2.1.f f rfl).r (fun a i _ _ => hf a i (by omega) (by omega) (by omega) (by omega))), ((h.2.2.2.2.2.2.f f rfl).r hG hI (fun a i _ _ => hf a i (by omega) (by omega) (by omega) (by omega)))⟩, ?_⟩
  by_cases hx : 0 ≤ x ∧ x ≤ 23
  · have hN := (h.2.1 x (by omega) (by omega)).1
    rw [hN] at p
    rcases p with p | ⟨p0, c1, p1, p2⟩ <;> rcases q with q | ⟨q0, c2, q1, q2⟩
    · omega
    · exact absurd p.1 (by omega)
    · exact absurd q.1 (by omega)
    · have e := HE.u p1 q1
      subst e
      rw [p2, q2]
  · rcases p with p | p <;> rcases q with q | q
    · omega
    · exact absurd q.1.1 hx
    · exact absurd p.1.1 hx
    · exact absurd p.1.1 hx
theorem op_carried {C D R S : jm} {r r2 : Int} (h : RDA C R) (hG : RG1 R) (hI : RI R) {x y z : Int} (f : FR W_c_PacketWall_carried_x C D) (p : (((x < 0 ∨ 23 < x ∨ C (xe 2 x) 1 = -1) ∧ r = -2) ∨ (((0 ≤ x ∧ x ≤ 23) ∧ C (xe 2 x) 1 ≠ -1) ∧ ∃ C_ : Int, HE (rf R x) (C (xe 2 x) 1) C_ ∧ (((y < 0 ∨ z < 0 ∨ C_ < y + z) ∧ r = -3) ∨ ((0 ≤ y ∧ 0 ≤ z ∧ y + z ≤ C_) ∧ r = crr (rf R x) (C (xe 2 x) 1) z.toNat y))))) (q : (((x < 0 ∨ 23 < x ∨ R 600 x = -1) ∧ r2 = -2) ∨ (((0 ≤ x ∧ x ≤ 23) ∧ R 600 x ≠ -1) ∧ ∃ C_ : Int, HE (rf R x) (R 600 x) C_ ∧ (((y < 0 ∨ z < 0 ∨ C_ < y + z) ∧ r2 = -3) ∨ ((0 ≤ y ∧ 0 ≤ z ∧ y + z ≤ C_) ∧ r2 = crr (rf R x) (R 600 x) z.toNat y))))) (hf : ∀ (a : Nat) (i : Int), a ≠ 598 → a ≠ 603 → a ≠ 604 → a ≠ 605 → S a i = R a i) (hk : ∀ (i : Int), i ≠ 6 → i ≠ 10 → i ≠ 11 → i ≠ 12 → S 598 i = R 598 i) : RDA D S ∧ r = r2 := by
  refine ⟨⟨((h.1.f f rfl).r (fun i => hf 599 i (by decide) (by decide) (by decide) (by decide)) (hk 1 (by decide) (by decide) (by decide) (by decide))), ((h.2.1.f f rfl).r (fun a i _ _ => hf a i (by omega) (by omega) (by omega) (by omega))), ((h.2.2.1.f f rfl).r (fun i _ _ => (hk i (by omega) (by omega) (by omega) (by omega)))), ((h.2.2.2.1.f f rfl).r (fun i => hf 622 i (by decide) (by decide) (by decide) (by decide)) (hk 34 (by decide) (by decide) (by decide) (by decide))), ((h.2.2.2.2.1.f f rfl).r (fun a i _ _ => hf a i (by omega) (by omega) (by omega) (by omega))), ((h.2.2.2.2.2.1.f f rfl).r (fun a i _ _ => hf a i (by omega) (by omega) (by omega) (by omega))), ((h.2.2.2.2.2.2.f f rfl).r hG hI (fun a i _ _ => hf a i (by omega) (by omega) (by omega) (by omega)))⟩, ?_⟩
  by_cases hx : 0 ≤ x ∧ x ≤ 23
  · have hN := (h.2.1 x (by omega) (by omega)).1
    rw [hN] at p
    rcases p with p | ⟨p0, c1, p1, p2⟩ <;> rcases q with q | ⟨q0, c2, q1, q2⟩
    · omega
    · exact absurd p.1 (by omega)
    · exact absurd q.1 (by omega)
    · have e := HE.u p1 q1
      subst e
      omega
  · rcases p with p | p <;> rcases q with q | q
    · omega
    · exact absurd q.1.1 hx
    · exact absurd p.1.1 hx
    · exact absurd p.1.1 hx
theorem op_at {C R : jm} {r r2 x y : Int} (h : RDA C R) (hI : RI R) (p : (((x < 0 ∨ 23 < x ∨ C (xe 2 x) 1 = -1) ∧ r = -2) ∨ ((0 ≤ x ∧ x ≤ 23) ∧ C (xe 2 x) 1 ≠ -1 ∧ ((y = -1 ∧ r = C (xe 2 x) 1) ∨ (y ≠ -1 ∧ (0 ≤ y ∧ y < C (xe 2 x) 1) ∧ r = C ((xe 2 x) + 1) y) ∨ (y ≠ -1 ∧ (y < 0 ∨ C (xe 2 x) 1 ≤ y) ∧ r = -1))))) (q : (((x < 0 ∨ 23 < x ∨ R 600 x = -1) ∧ r2 = -2) ∨ ((0 ≤ x ∧ x ≤ 23) ∧ R 600 x ≠ -1 ∧ ((y = -1 ∧ r2 = R 600 x) ∨ (y ≠ -1 ∧ (0 ≤ y ∧ y < R 600 x) ∧ r2 = R 601 (400 * x + y)) ∨ (y ≠ -1 ∧ (y < 0 ∨ R 600 x ≤ y) ∧ r2 = -1))))) : r = r2 := by
  by_cases hx : 0 ≤ x ∧ x ≤ 23
  · have hN := (h.2.1 x (by omega) (by omega)).1
    have hB := (h.2.1 x (by omega) (by omega)).2 y
    have b : R 600 x ≤ 400 := by have q := hI 600 x (by decide); rw [xri_row rfl rfl] at q; exact q.2
    rw [hN] at p
    by_cases hy : 0 ≤ y ∧ y < 400
    · rw [hB hy.1 hy.2] at p
      omega
    · omega
  · omega
theorem op_digest {C R S : jm} {r r2 x : Int} (h : RDA C R) (hI : RI R) (p : (((x < 0 ∨ 23 < x ∨ C (xe 2 x) 1 = -1) ∧ r = 0) ∨ ((0 ≤ x ∧ x ≤ 23) ∧ C (xe 2 x) 1 ≠ -1 ∧ r = dg (fun k => C ((xe 2 x) + 1) k) (C (xe 2 x) 1).toNat))) (q : (((x < 0 ∨ 23 < x ∨ S 600 x = -1) ∧ r2 = 0) ∨ ((0 ≤ x ∧ x ≤ 23) ∧ S 600 x ≠ -1 ∧ r2 = dg (fun j => S 601 (400 * x + j)) (S 600 x).toNat))) (e : ∀ (a : Nat) (i : Int), a ≠ 603 → S a i = R a i) : r = r2 := by
  have e0 : S 600 x = R 600 x := e 600 x (by decide)
  have e1 : (fun j => S 601 (400 * x + j)) = rf R x := funext (fun j => e 601 _ (by decide))
  rw [e0, e1] at q
  by_cases hx : 0 ≤ x ∧ x ≤ 23
  · have hN := (h.2.1 x (by omega) (by omega)).1
    have b : R 600 x ≤ 400 := by have q := hI 600 x (by decide); rw [xri_row rfl rfl] at q; exact q.2
    have d : ∀ n : Nat, (n : Int) ≤ 400 → dg (fun k => C ((xe 2 x) + 1) k) n = dg (rf R x) n := by
      intro n
      induction n with
      | zero => intro _; rfl
      | succ n ih =>
        intro hn
        show jl_w (jl_xor (dg _ n) (C ((xe 2 x) + 1) n) * _) = jl_w (jl_xor (dg _ n) (rf R x n) * _)
        rw [ih (by omega), (h.2.1 x (by omega) (by omega)).2 n (by omega) (by omega)]
        rfl
    rw [hN] at p
    by_cases hm : R 600 x = -1
    · omega
    · have nb : -1 ≤ R 600 x := by have q := hI 600 x (by decide); rw [xri_row rfl rfl] at q; exact q.1
      rw [d (R 600 x).toNat (by omega)] at p
      omega
  · omega
theorem op_finding {C R : jm} {r r2 x : Int} (h : RDA C R) (p : (((0 ≤ x ∧ x < 4) ∧ r = C 9 x) ∨ ((x < 0 ∨ 4 ≤ x) ∧ r = -3))) (q : ((x = 0 ∧ ((R 598 13 = -1 ∧ r2 = 0) ∨ (R 598 13 ≠ -1 ∧ r2 = R 598 13))) ∨ (x = 1 ∧ r2 = R 598 14) ∨ (x = 2 ∧ r2 = R 598 15) ∨ (x = 3 ∧ r2 = R 598 16) ∨ ((x < 0 ∨ 3 < x) ∧ r2 = -3))) : r = r2 := by
  obtain ⟨h0, h1, h2, h3⟩ := h.2.2.1
  by_cases hx : 0 ≤ x ∧ x < 4
  · rcases (show x = 0 ∨ x = 1 ∨ x = 2 ∨ x = 3 by omega) with rfl | rfl | rfl | rfl
    · split at h0 <;> omega
    · omega
    · omega
    · omega
  · omega
theorem op_gathered {C R : jm} {r r2 x : Int} (h : RDA C R) (p : (((0 ≤ x ∧ x < 5) ∧ r = C 14 x) ∨ ((x < 0 ∨ 5 ≤ x) ∧ r = -3))) (q : (((0 ≤ x ∧ x ≤ 4) ∧ ((R 598 34 = 0 ∧ r2 = -1) ∨ (R 598 34 ≠ 0 ∧ r2 = R 622 x))) ∨ ((x < 0 ∨ 4 < x) ∧ r2 = -3))) : r = r2 := by
  by_cases hx : 0 ≤ x ∧ x < 5
  · have e := h.2.2.2.1 x hx.1 hx.2
    split at e <;> omega
  · omega
theorem op_tape {C R : jm} {r r2 x : Int} (h : RDA C R) (p : ((0 ≤ x ∧ x < C 0 1) ∧ r = C 1 x) ∨ ((x < 0 ∨ C 0 1 ≤ x) ∧ r = -1)) (q : (((0 ≤ x ∧ x < R 598 1) ∧ r2 = R 599 x) ∨ ((x < 0 ∨ R 598 1 ≤ x) ∧ r2 = -1))) : r = r2 := by
  rw [h.1.1, h.1.2] at p
  omega
theorem op_feed {C D R S : jm} {r r2 : Int} (h : RDA C R) (hG : RG1 R) (hI : RI R) {x y z u v : Int} (f : FR W_c_PacketWall_feed_f C D) (p : ((C 0 1 + 20 ≤ 1600 ∧ r = C 0 1 + 20 ∧ D 1 = t4 (t4 (t4 (t4 (t4 (C 1) (C 0 1) x) (C 0 1 + 4) y) ((C 0 1 + 4) + 4) z) (((C 0 1 + 4) + 4) + 4) u) ((((C 0 1 + 4) + 4) + 4) + 4) v) ∨ (1600 < C 0 1 + 20 ∧ r = -5 ∧ D 1 = C 1))) (pl : ((C 0 1 + 20 ≤ 1600 ∧ D 0 1 = C 0 1 + 20) ∨ (1600 < C 0 1 + 20 ∧ D 0 1 = C 0 1))) (q : ((R 598 1 + 20 ≤ 1600 ∧ r2 = R 598 1 + 20 ∧ S 599 = t4 (t4 (t4 (t4 (t4 (R 599) (R 598 1) x) (R 598 1 + 4) y) ((R 598 1 + 4) + 4) z) (((R 598 1 + 4) + 4) + 4) u) ((((R 598 1 + 4) + 4) + 4) + 4) v ∧ S 598 1 = R 598 1 + 20) ∨ (1600 < R 598 1 + 20 ∧ r2 = -5 ∧ S 599 = R 599 ∧ S 598 1 = R 598 1))) (hf : ∀ (a : Nat) (i : Int), a ≠ 598 → a ≠ 599 → S a i = R a i) (hk : ∀ (i : Int), i ≠ 1 → S 598 i = R 598 i) : RDA D S ∧ r = r2 := by
  rw [h.1.1, h.1.2] at p
  rw [h.1.2] at pl
  refine ⟨⟨?_, ((h.2.1.f f rfl).r (fun a i _ _ => hf a i (by omega) (by omega))), ((h.2.2.1.f f rfl).r (fun i _ _ => (hk i (by omega)))), ((h.2.2.2.1.f f rfl).r (fun i => hf 622 i (by decide) (by decide)) (hk 34 (by decide))), ((h.2.2.2.2.1.f f rfl).r (fun a i _ _ => hf a i (by omega) (by omega))), ((h.2.2.2.2.2.1.f f rfl).r (fun a i _ _ => hf a i (by omega) (by omega))), ((h.2.2.2.2.2.2.f f rfl).r hG hI (fun a i _ _ => hf a i (by omega) (by omega)))⟩, ?_⟩
  · refine ⟨?_, by omega⟩
    rcases p with p | p <;> rcases q with q | q
    · rw [p.2.2, q.2.2.1]
    · omega
    · omega
    · rw [p.2.2, q.2.2.1]
  · omega
theorem op_end {C D R S : jm} {r r2 : Int} (h : RDA C R) (hG : RG1 R) (hI : RI R) {x : Int} (f : FR W_c_PacketWall_end_x C D) (p : (((0 ≤ x ∧ x ≤ C 0 1) ∧ r = x ∧ D 0 1 = x) ∨ ((x < 0 ∨ C 0 1 < x) ∧ r = -3 ∧ D 0 1 = C 0 1))) (q : (((0 ≤ x ∧ x ≤ R 598 1) ∧ r2 = x ∧ S 598 1 = x) ∨ ((x < 0 ∨ R 598 1 < x) ∧ r2 = -3 ∧ S 598 1 = R 598 1))) (hf : ∀ (a : Nat) (i : Int), a ≠ 598 → S a i = R a i) (hk : ∀ (i : Int), i ≠ 1 → S 598 i = R 598 i) : RDA D S ∧ r = r2 := by
  rw [h.1.2] at p
  have e1 : D 1 = C 1 := funext (fun i => f.g (show kd 1 = 43 from rfl) rfl)
  have e2 : S 599 = R 599 := funext (fun i => hf 599 i (by decide))
  exact ⟨⟨⟨by rw [e1, e2]; exact h.1.1, by omega⟩, ((h.2.1.f f rfl).r (fun a i _ _ => hf a i (by omega))), ((h.2.2.1.f f rfl).r (fun i _ _ => (hk i (by omega)))), ((h.2.2.2.1.f f rfl).r (fun i => hf 622 i (by decide)) (hk 34 (by decide))), ((h.2.2.2.2.1.f f rfl).r (fun a i _ _ => hf a i (by omega))), ((h.2.2.2.2.2.1.f f rfl).r (fun a i _ _ => hf a i (by omega))), ((h.2.2.2.2.2.2.f f rfl).r hG hI (fun a i _ _ => hf a i (by omega)))⟩, by omega⟩
theorem rdp_bytes {C R : jm} (h : RDp C R) {D S : jm} {x : Int} {g g2 : Int → Int} (hx : 0 ≤ x ∧ x < 24) (e1 : ∀ p : Int, 0 ≤ p → p < 24 → D (xe 2 p) 1 = S 600 p) (hb : ∀ i : Int, 0 ≤ i → i < 400 → D (xe 2 x + 1) i = g i) (hs : ∀ i : Int, 0 ≤ i → i < 400 → S 601 (400 * x + i) = g2 i) (hg : ∀ i : Int, 0 ≤ i → i < 400 → g i = g2 i) (ed : ∀ p : Int, 0 ≤ p → p < 24 → p ≠ x → ∀ i : Int, D (xe 2 p + 1) i = C (xe 2 p + 1) i) (es : ∀ j : Int, (j < 400 * x ∨ 400 * x + 400 ≤ j) → S 601 j = R 601 j) : RDp D S := fun p p0 p1 => by
  refine ⟨e1 p p0 p1, fun i i0 i1 => ?_⟩
  by_cases e : p = x
  · subst e
    rw [hb i i0 i1, hs i i0 i1, hg i i0 i1]
  · rw [ed p p0 p1 e, es _ (by omega)]
    exact (h p p0 p1).2 i i0 i1
theorem xpk_ne {p x : Int} (hp : 0 ≤ p ∧ p < 24) (hx : 0 ≤ x ∧ x < 24) (h : p ≠ x) : xe 2 p ≠ xe 2 x ∧ xe 2 p ≠ xe 2 x + 1 ∧ xe 2 p + 1 ≠ xe 2 x ∧ xe 2 p + 1 ≠ xe 2 x + 1 := by
  have a := xpk hp
  have b := xpk hx
  omega
theorem xpk_z {p : Int} (hp : 0 ≤ p ∧ p < 24) : xe 2 p ≠ 0 ∧ xe 2 p + 1 ≠ 0 ∧ xe 2 p ≠ 1 ∧ xe 2 p + 1 ≠ 1 ∧ xe 2 p ≠ xe 2 p + 1 := by
  have a := xpk hp
  omega
end
