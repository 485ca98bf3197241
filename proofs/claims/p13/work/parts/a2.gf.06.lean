section
/-- a live gathering whose cells of the reference are as they were -/
theorem GL.r {C R S : jm} {G : Nat} {g : Int} (h : GL C R G g) (hr : R 617 g ≤ 400) (hq : R 617 g ≠ -1 → (0 ≤ R 621 g ∧ R 621 g < 400) ∧ (0 ≤ R 619 g ∧ R 619 g < 400)) (e1 : ∀ b : Nat, 607 ≤ b → b ≤ 621 → b ≠ 615 → b ≠ 616 → b ≠ 618 → S b g = R b g) (e5 : ∀ k : Int, 0 ≤ k → k < 360 → S 615 (360 * g + k) = R 615 (360 * g + k) ∧ S 616 (360 * g + k) = R 616 (360 * g + k)) (e8 : ∀ k : Int, 0 ≤ k → k < 400 → S 618 (400 * g + k) = R 618 (400 * g + k)) : GL C S G g := by
  obtain ⟨h1, h2, h3, h4, h5, h6⟩ := h
  refine ⟨?_, ?_, ?_, fun k k0 k1 => ?_, ?_, fun u => ?_⟩
  · rw [e1 607 (by decide) (by decide) (by decide) (by decide) (by decide), e1 608 (by decide) (by decide) (by decide) (by decide) (by decide), e1 609 (by decide) (by decide) (by decide) (by decide) (by decide), e1 610 (by decide) (by decide) (by decide) (by decide) (by decide), e1 611 (by decide) (by decide) (by decide) (by decide) (by decide), e1 612 (by decide) (by decide) (by decide) (by decide) (by decide)]; exact h1
  · rw [e1 607 (by decide) (by decide) (by decide) (by decide) (by decide)]; exact h2
  · rw [e1 614 (by decide) (by decide) (by decide) (by decide) (by decide), e1 613 (by decide) (by decide) (by decide) (by decide) (by decide)]; exact h3
  · have := lpf_m (C G 7)
    rw [wR_e e5 k0 (by omega)]; exact h4 k k0 k1
  · rw [e1 617 (by decide) (by decide) (by decide) (by decide) (by decide)]; exact h5
  · rw [e1 617 (by decide) (by decide) (by decide) (by decide) (by decide)] at u ⊢
    obtain ⟨g1, g2, g3, g4⟩ := h6 u
    have r := hq u
    rw [e1 621 (by decide) (by decide) (by decide) (by decide) (by decide), e1 607 (by decide) (by decide) (by decide) (by decide) (by decide), e1 620 (by decide) (by decide) (by decide) (by decide) (by decide), e1 619 (by decide) (by decide) (by decide) (by decide) (by decide), e1 611 (by decide) (by decide) (by decide) (by decide) (by decide), e8 _ r.2.1 r.2.2, e8 _ r.1.1 r.1.2]
    exact ⟨fun k k0 k1 => by rw [e8 k k0 (by omega)]; exact g1 k k0 k1, g2, g3, g4⟩
theorem RG1.q {R : jm} (h : RG1 R) (hI : RI R) {g : Int} (g0 : 0 ≤ g) (u : R 606 g ≠ 0) : R 617 g ≤ 400 ∧ (R 617 g ≠ -1 → (0 ≤ R 621 g ∧ R 621 g < 400) ∧ (0 ≤ R 619 g ∧ R 619 g < 400)) := by
  have a : (-1 : Int) ≤ R 617 g ∧ R 617 g ≤ 400 := by have q := hI 617 g (by decide); rw [xri_row rfl rfl] at q; exact q
  have b : (0 : Int) ≤ R 619 g ∧ R 619 g ≤ 400 := by have q := hI 619 g (by decide); rw [xri_row rfl rfl] at q; exact q
  refine ⟨a.2, fun v => ?_⟩
  have q := (h g g0 u).2 v
  omega
theorem UN.r {R S : jm} (h : UN R) (e : ∀ (a : Nat) (i : Int), 606 ≤ a → a ≤ 611 → S a i = R a i) : UN S := fun g k g0 g1 k0 k1 u v w => by
  rw [e 606 _ (by decide) (by decide)] at u v
  rw [e 607 _ (by decide) (by decide), e 607 _ (by decide) (by decide), e 608 _ (by decide) (by decide), e 608 _ (by decide) (by decide), e 609 _ (by decide) (by decide), e 609 _ (by decide) (by decide), e 610 _ (by decide) (by decide), e 610 _ (by decide) (by decide), e 611 _ (by decide) (by decide), e 611 _ (by decide) (by decide)] at w
  exact h g k g0 g1 k0 k1 u v w
theorem RDg.r {C R S : jm} (h : RDg C R) (hG : RG1 R) (hI : RI R) (e : ∀ (a : Nat) (i : Int), 606 ≤ a → a ≤ 621 → S a i = R a i) : RDg C S := by
  refine ⟨h.1.r (fun a i h0 h1 => e a i h0 (by omega)), fun g g0 g1 => ?_⟩
  have q := h.2 g g0 g1
  refine ⟨by rw [e 606 g (by decide) (by decide)]; exact q.1, fun u => ?_⟩
  rw [e 606 g (by decide) (by decide)] at u
  have z := RG1.q hG hI g0 u
  exact (q.2 u).r z.1 z.2 (fun b b0 b1 _ _ _ => e b g (by omega) b1) (fun k _ _ => ⟨e 615 _ (by decide) (by decide), e 616 _ (by decide) (by decide)⟩) (fun k _ _ => e 618 _ (by decide) (by decide))
theorem RDp.b {C R : jm} (h : RDp C R) (hI : RI R) : PBS C (rf R) := fun p p0 p1 i i0 i1 => ⟨(h p p0 p1).2 i i0 i1, rf_r hI p i⟩
/-- the class's cells alone -/
theorem RDA.c {C D R : jm} (h : RDA C R) (e : ∀ (a : Nat) (i : Int), a < 598 → D a i = C a i)   : RDA D R := by
  have f : FR [(0, 1000)] C D := fun a i hk => e a i (kd_lt (fun q => by
    rw [q] at hk
    have t : kw [(0, 1000)] 0 i = true := rfl
    rw [t] at hk
    exact absurd hk (by decide)))
  obtain ⟨h1, h2, h3, h4, h5, h6, h7⟩ := h
  exact ⟨h1.f f rfl, h2.f f rfl, h3.f f rfl, h4.f f rfl, h5.f f rfl, h6.f f rfl, h7.f f rfl⟩
end
section
/-! ===== both sides answer alike: headers, tape, packets ===== -/
theorem hsF_n (f : Int → Int) (n c bk k a : Int) : 0 ≤ hsF f n c bk k a := by
  unfold hsF
  (repeat' split) <;> omega
theorem hF_n (f : Int → Int) (N i : Int) : 0 ≤ hF f N i := hsF_n _ _ _ _ _ _
theorem op_kind {C D R S : jm} {r r2 : Int} (h : RDA C R) (hG : RG1 R) (hI : RI R) {x y z : Int} (f : FR W_c_PacketWall_kind_x C D) (p : (((x < 0 ∨ 23 < x ∨ C (xe 2 x) 1 = -1) ∧ r = -2) ∨ (((0 ≤ x ∧ x ≤ 23) ∧ C (xe 2 x) 1 ≠ -1) ∧ ∃ C_ : Int, HE (rf R x) (C (xe 2 x) 1) C_ ∧ r = kA (rf R x) (C (xe 2 x) 1) C_ y))) (q : (((x < 0 ∨ 23 < x ∨ R 600 x = -1) ∧ r2 = -2) ∨ (((0 ≤ x ∧ x ≤ 23) ∧ R 600 x ≠ -1) ∧ ∃ C_ : Int, HE (rf R x) (R 600 x) C_ ∧ r2 = kA (rf R x) (R 600 x) C_ y))) (hf : ∀ (a : Nat) (i : Int), a ≠ 598 → a ≠ 603 → a ≠ 604 → a ≠ 605 → S a i = R a i) (hk : ∀ (i : Int), i ≠ 6 → i ≠ 10 → i ≠ 11 → i ≠ 12 → S 598 i = R 598 i) : RDA D S ∧ r = r2 := by
  refine ⟨⟨((h.1.f f rfl).r (fun i => hf 599 i (by decide) (by decide) (by decide) (by decide)) (hk 1 (by decide) (by decide) (by decide) (by decide))), ((h.2.1.f f rfl).r (fun a i _ _ => hf a i (by omega) (by omega) (by omega) (by omega))), ((h.2.2.1.f f rfl).r (fun i _ _ => (hk i (by omega) (by omega) (by omega) (by omega)))), ((h.2.2.2.1.f f rfl).r (fun i => hf 622 i (by decide) (by decide) (by decide) (by decide)) (hk 34 (by decide) (by decide) (by decide) (by decide))), ((h.2.2.2.2.1.f f rfl).r (fun a i _ _ => hf a i (by omega) (by omega) (by omega) (by omega))), ((h.2.2.2.2.2.1.f f rfl).r (fun a i _ _ => hf a i (by omega) (by omega) (by omega) (by omega))), ((h.2.2.2.2.2.2.f f rfl).r hG hI (fun a i _ _ => hf a i (by omega) (by omega) (by omega) (by omega)))⟩, ?_⟩
  by_cases hx : 0 ≤ x ∧ x ≤ 23
  · have hN := (h.2.1 x (by omega) (by omega)).1
    rw [hN] at p
    rcases p with p | ⟨p0, c1, p1, p2⟩ <;> rcases q with q | ⟨q0, c2, q1, q2⟩
    · omega
    · exact absurd p.1 (by omega)
    · exact absurd q.1 (by omega)
    · have e := HE.u p1 q1
      subst e
      rw [p2, q2]
  · rcases p with p | p <;> rcases q with q | q
    · omega
    · exact absurd q.1.1 hx
    · exact absurd p.1.1 hx
    · exact absurd p.1.1 hx
theorem op_place {C D R S : jm} {r r2 : Int} (h : RDA C R) (hG : RG1 R) (hI : RI R) {x y z : Int} (f : FR W_c_PacketWall_place_x C D) (p : (((x < 0 ∨ 23 < x ∨ C (xe 2 x) 1 = -1) ∧ r = -2) ∨ (((0 ≤ x ∧ x ≤ 23) ∧ C (xe 2 x) 1 ≠ -1) ∧ ∃ C_ : Int, HE (rf R x) (C (xe 2 x) 1) C_ ∧ r = pA (rf R x) (C (xe 2 x) 1) C_ y))) (q : (((x < 0 ∨ 23 < x ∨ R 600 x = -1) ∧ r2 = -2) ∨ (((0 ≤ x ∧ x ≤ 23) ∧ R 600 x ≠ -1) ∧ ∃ C_ : Int, HE (rf R x) (R 600 x) C_ ∧ r2 = pA (rf R x) (R 600 x) C_ y))) (hf : ∀ (a : Nat) (i : Int), a ≠ 598 → a ≠ 603 → a ≠ 604 → a ≠ 605 → S a i = R a i) (hk : ∀ (i : Int), i ≠ 6 → i ≠ 10 → i ≠ 11 → i ≠ 12 → S 598 i = R 598 i) : RDA D S ∧ r = r2 := by
  refine ⟨⟨((h.1.f f rfl).r (fun i => hf 599 i (by decide) (by decide) (by decide) (by decide)) (hk 1 (by decide) (by decide) (by decide) (by decide))), ((h.2.1.f f rfl).r (fun a i _ _ => hf a i (by omega) (by omega) (by omega) (by omega))), ((h.2.2.1.f f rfl).r (fun i _ _ => (hk i (by omega) (by omega) (by omega) (by omega)))), ((h.2.2.2.1.f f rfl).r (fun i => hf 622 i (by decide) (by decide) (by decide) (by decide)) (hk 34 (by decide) (by decide) (by decide) (by decide))), ((h.2.2.2.2.1.f f rfl).r (fun a i _ _ => hf a i (by omega) (by omega) (by omega) (by omega))), ((h.2.2.2.2.2.1.f f rfl).r (fun a i _ _ => hf a i (by omega) (by omega) (by omega) (by omega))), ((h.2.2.2.2.2.2.f f rfl).r hG hI (fun a i _ _ => hf a i (by omega) (by omega) (by omega) (by omega)))⟩, ?_⟩
  by_cases hx : 0 ≤ x ∧ x ≤ 23
  · have hN := (h.2.1 x (by omega) (by omega)).1
    rw [hN] at p
    rcases p with p | ⟨p0, c1, p1, p2⟩ <;> rcases q with q | ⟨q0, c2, q1, q2⟩
    · omega
    · exact absurd p.1 (by omega)
    · exact absurd q.1 (by omega)
    · have e := HE.u p1 q1
      subst e
      rw [p2, q2]
  · rcases p with p | p <;> rcases q with q | q
    · omega
    · exact absurd q.1.1 hx
    · exact absurd p.1.1 hx
    · exact absurd p.1.1 hx
end
