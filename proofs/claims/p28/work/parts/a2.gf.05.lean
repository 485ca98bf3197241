section
theorem RDg.f {W : List (Nat × Nat)} {C D R : jm} (h : RDg C R) (f : FR W C D) (s : ksep W [(15, 0), (15, 1), (15, 2), (15, 3), (15, 4), (15, 5), (15, 6), (15, 7), (15, 8), (15, 11), (15, 12), (15, 13), (16, 1000), (17, 1000)] = true) : RDg D R := by
  refine ⟨h.1, fun g g0 g1 => ?_⟩
  have k := kGa g0 g1
  have k1 := (kf_15_9 k).2
  have k2 := (kf_15_10 k).2
  have q := h.2 g g0 g1
  refine ⟨by rw [f.s s k 0 (by decide) 0 (Or.inr rfl)]; exact q.1, fun u => (q.2 u).e (fun j hj => ?_) (fun j => f.s s k1 1000 (by decide) j (Or.inl rfl)) (fun j => f.s s k2 1000 (by decide) j (Or.inl rfl))⟩
  rcases hj with rfl | rfl | rfl | rfl | rfl | rfl | rfl | rfl | rfl | rfl | rfl
  · exact f.s s k 1 (by decide) 1 (Or.inr rfl)
  · exact f.s s k 2 (by decide) 2 (Or.inr rfl)
  · exact f.s s k 3 (by decide) 3 (Or.inr rfl)
  · exact f.s s k 4 (by decide) 4 (Or.inr rfl)
  · exact f.s s k 5 (by decide) 5 (Or.inr rfl)
  · exact f.s s k 6 (by decide) 6 (Or.inr rfl)
  · exact f.s s k 7 (by decide) 7 (Or.inr rfl)
  · exact f.s s k 8 (by decide) 8 (Or.inr rfl)
  · exact f.s s k 11 (by decide) 11 (Or.inr rfl)
  · exact f.s s k 12 (by decide) 12 (Or.inr rfl)
  · exact f.s s k 13 (by decide) 13 (Or.inr rfl)
/-! frames: the reference's cells -/
theorem RDt.r {C R S : jm} (h : RDt C R) (e : ∀ i : Int, S 599 i = R 599 i) (e1 : S 598 1 = R 598 1) : RDt C S := ⟨h.1.trans (funext (fun i => (e i).symm)), h.2.trans e1.symm⟩
theorem RDp.r {C R S : jm} (h : RDp C R) (e : ∀ (a : Nat) (i : Int), 600 ≤ a → a ≤ 601 → S a i = R a i) : RDp C S := fun p p0 p1 => by
  refine ⟨?_, fun i i0 i1 => ?_⟩
  · rw [e 600 p (by decide) (by decide)]; exact (h p p0 p1).1
  · rw [e 601 _ (by decide) (by decide)]; exact (h p p0 p1).2 i i0 i1
theorem RDf.r {C R S : jm} (h : RDf C R) (e : ∀ i : Int, 13 ≤ i → i ≤ 16 → S 598 i = R 598 i) : RDf C S := by
  unfold RDf
  rw [e 13 (by decide) (by decide), e 14 (by decide) (by decide), e 15 (by decide) (by decide), e 16 (by decide) (by decide)]
  exact h
theorem RDl.r {C R S : jm} (h : RDl C R) (e : ∀ i : Int, S 622 i = R 622 i) (e1 : S 598 34 = R 598 34) : RDl C S := fun i i0 i1 => by
  rw [e, e1]
  exact h i i0 i1
theorem RDo.r {C R S : jm} (h : RDo C R) (e : ∀ (a : Nat) (i : Int), 643 ≤ a → a ≤ 646 → S a i = R a i) : RDo C S := ⟨h.1, fun k k0 k1 => by
  rw [e 643 k (by decide) (by decide), e 644 k (by decide) (by decide), e 645 k (by decide) (by decide), e 646 k (by decide) (by decide)]
  exact h.2 k k0 k1⟩
theorem l6x_e {R S : jm} {j : Int} (h2 : S 632 j = R 632 j) (h3 : S 633 j = R 633 j) : l6x S j = l6x R j := by
  unfold l6x
  rw [h2, h3]
theorem FL.r {C R S : jm} {t : Nat} {f : Int} (h : FL C R t f) (e1 : ∀ b : Nat, (b = 628 ∨ b = 629 ∨ b = 638 ∨ b = 639 ∨ b = 640 ∨ b = 641 ∨ b = 642) → S b f = R b f) (e2 : ∀ (b : Nat) (s : Int), 630 ≤ b → b ≤ 637 → 0 ≤ s → s < 2 → S b (2 * f + s) = R b (2 * f + s)) : FL C S t f := by
  obtain ⟨h1, h2, h3, h4, h5⟩ := h
  have z0 := fun b h0 h1 => e2 b 0 h0 h1 (by decide) (by decide)
  have z1 := fun b h0 h1 => e2 b 1 h0 h1 (by decide) (by decide)
  simp only [Int.add_zero] at z0
  refine ⟨?_, fun s s0 s1 => ?_, ?_, ?_, ?_⟩
  · rw [e1 628 (by decide), e1 629 (by decide), e1 638 (by decide), e1 639 (by decide), e1 640 (by decide)]; exact h1
  · rw [e2 630 s (by decide) (by decide) s0 s1, e2 631 s (by decide) (by decide) s0 s1, e2 635 s (by decide) (by decide) s0 s1, e2 636 s (by decide) (by decide) s0 s1, e2 637 s (by decide) (by decide) s0 s1, l6x_e (e2 632 s (by decide) (by decide) s0 s1) (e2 633 s (by decide) (by decide) s0 s1), e2 632 s (by decide) (by decide) s0 s1]; exact h2 s s0 s1
  · rw [z1 634 (by decide) (by decide), z0 634 (by decide) (by decide)]; exact h3
  · rw [e1 640 (by decide), e1 641 (by decide), e1 642 (by decide), e1 628 (by decide), e1 629 (by decide)]; exact h4
  · rw [e1 629 (by decide), e1 638 (by decide)]; exact h5
theorem RDw.r {C R S : jm} (h : RDw C R) (e : ∀ (a : Nat) (i : Int), 627 ≤ a → a ≤ 642 → S a i = R a i) : RDw C S := ⟨h.1, fun f f0 f1 => by
  have q := h.2 f f0 f1
  refine ⟨by rw [e 627 f (by decide) (by decide)]; exact q.1, fun u => ?_⟩
  rw [e 627 f (by decide) (by decide)] at u
  exact (q.2 u).r (fun b hb => e b f (by omega) (by omega)) (fun b s b0 b1 _ _ => e b _ (by omega) (by omega))⟩
theorem wR_e {R S : jm} {g : Int} (h : ∀ k : Int, 0 ≤ k → k < 360 → S 615 (360 * g + k) = R 615 (360 * g + k) ∧ S 616 (360 * g + k) = R 616 (360 * g + k)) {k : Int} (k0 : 0 ≤ k) (k1 : k < 360) : wR S g k = wR R g k := by
  unfold wR
  rw [(h k k0 k1).1, (h k k0 k1).2]
theorem lpf_m (w : Int) : lpf w ≤ 360 := by
  unfold lpf
  (repeat' split) <;> omega
/-- a live gathering whose cells of the reference are as they were -/
theorem GL.r {C R S : jm} {G : Nat} {g : Int} (h : GL C R G g) (hr : R 617 g ≤ 400) (hq : R 617 g ≠ -1 → (0 ≤ R 621 g ∧ R 621 g < 400) ∧ (0 ≤ R 619 g ∧ R 619 g < 400)) (e1 : ∀ b : Nat, 607 ≤ b → b ≤ 621 → b ≠ 615 → b ≠ 616 → b ≠ 618 → S b g = R b g) (e5 : ∀ k : Int, 0 ≤ k → k < 360 → S 615 (360 * g + k) = R 615 (360 * g + k) ∧ S 616 (360 * g + k) = R 616 (360 * g + k)) (e8 : ∀ k : Int, 0 ≤ k → k < 400 → S 618 (400 * g + k) = R 618 (400 * g + k)) : GL C S G g := by
  obtain ⟨h1, h2, h3, h4, h5, h6⟩ := h
  refine ⟨?_, ?_, ?_, fun k k0 k1 => ?_, ?_, fun u => ?_⟩
  · rw [e1 607 (by decide) (by decide) (by decide) (by decide) (by decide), e1 608 (by decide) (by decide) (by decide) (by decide) (by decide), e1 609 (by decide) (by decide) (by decide) (by decide) (by decide), e1 610 (by decide) (by decide) (by decide) (by decide) (by decide), e1 611 (by decide) (by decide) (by decide) (by decide) (by decide), e1 612 (by decide) (by decide) (by decide) (by decide) (by decide)]; exact h1
  · rw [e1 607 (by decide) (by decide) (by decide) (by decide) (by decide)]; exact h2
  · rw [e1 614 (by decide) (by decide) (by decide) (by decide) (by decide), e1 613 (by decide) (by decide) (by decide) (by decide) (by decide)]; exact h3
  · have := lpf_m (C G 7)
    rw [wR_e e5 k0 (by omega)]; exact h4 k k0 k1
  · rw [e1 617 (by decide) (by decide) (by decide) (by decide) (by decide)]; exact h5
  · rw [e1 617 (by decide) (by decide) (by decide) (by decide) (by decide)] at u ⊢
    obtain ⟨g1, g2, g3, g4⟩ := h6 u
    have r := hq u
    rw [e1 621 (by decide) (by decide) (by decide) (by decide) (by decide), e1 607 (by decide) (by decide) (by decide) (by decide) (by decide), e1 620 (by decide) (by decide) (by decide) (by decide) (by decide), e1 619 (by decide) (by decide) (by decide) (by decide) (by decide), e1 611 (by decide) (by decide) (by decide) (by decide) (by decide), e8 _ r.2.1 r.2.2, e8 _ r.1.1 r.1.2]
    exact ⟨fun k k0 k1 => by rw [e8 k k0 (by omega)]; exact g1 k k0 k1, g2, g3, g4⟩
theorem RG1.q {R : jm} (h : RG1 R) (hI : RI R) {g : Int} (g0 : 0 ≤ g) (u : R 606 g ≠ 0) : R 617 g ≤ 400 ∧ (R 617 g ≠ -1 → (0 ≤ R 621 g ∧ R 621 g < 400) ∧ (0 ≤ R 619 g ∧ R 619 g < 400)) := by
  have a : (-1 : Int) ≤ R 617 g ∧ R 617 g ≤ 400 := by have q := hI 617 g (by decide); rw [xri_row rfl rfl] at q; exact q
  have b : (0 : Int) ≤ R 619 g ∧ R 619 g ≤ 400 := by have q := hI 619 g (by decide); rw [xri_row rfl rfl] at q; exact q
  refine ⟨a.2, fun v => ?_⟩
  have q := (h g g0 u).2 v
  omega
theorem UN.r {R S : jm} (h : UN R) (e : ∀ (a : Nat) (i : Int), 606 ≤ a → a ≤ 611 → S a i = R a i) : UN S := fun g k g0 g1 k0 k1 u v w => by
  rw [e 606 _ (by decide) (by decide)] at u v
  rw [e 607 _ (by decide) (by decide), e 607 _ (by decide) (by decide), e 608 _ (by decide) (by decide), e 608 _ (by decide) (by decide), e 609 _ (by decide) (by decide), e 609 _ (by decide) (by decide), e 610 _ (by decide) (by decide), e 610 _ (by decide) (by decide), e 611 _ (by decide) (by decide), e 611 _ (by decide) (by decide)] at w
  exact h g k g0 g1 k0 k1 u v w
theorem RDg.r {C R S : jm} (h : RDg C R) (hG : RG1 R) (hI : RI R) (e : ∀ (a : Nat) (i : Int), 606 ≤ a → a ≤ 621 → S a i = R a i) : RDg C S := by
  refine ⟨h.1.r (fun a i h0 h1 => e a i h0 (by omega)), fun g g0 g1 => ?_⟩
  have q := h.2 g g0 g1
  refine ⟨by rw [e 606 g (by decide) (by decide)]; exact q.1, fun u => ?_⟩
  rw [e 606 g (by decide) (by decide)] at u
  have z := RG1.q hG hI g0 u
  exact (q.2 u).r z.1 z.2 (fun b b0 b1 _ _ _ => e b g (by omega) b1) (fun k _ _ => ⟨e 615 _ (by decide) (by decide), e 616 _ (by decide) (by decide)⟩) (fun k _ _ => e 618 _ (by decide) (by decide))
theorem RDp.b {C R : jm} (h : RDp C R) (hI : RI R) : PBS C (rf R) := fun p p0 p1 i i0 i1 => ⟨(h p p0 p1).2 i i0 i1, rf_r hI p i⟩
/-- the class's cells alone -/
theorem RDA.c {C D R : jm} (h : RDA C R) (e : ∀ (a : Nat) (i : Int), a < 598 → D a i = C a i)   : RDA D R := by
  have f : FR [(0, 1000)] C D := fun a i hk => e a i (kd_lt (fun q => by
    rw [q] at hk
    have t : kw [(0, 1000)] 0 i = true := rfl
    rw [t] at hk
    exact absurd hk (by decide)))
  obtain ⟨h1, h2, h3, h4, h5, h6, h7⟩ := h
  exact ⟨h1.f f rfl, h2.f f rfl, h3.f f rfl, h4.f f rfl, h5.f f rfl, h6.f f rfl, h7.f f rfl⟩
end
section
/-! ===== both sides answer alike: headers, tape, packets ===== -/
theorem hsF_n (f : Int → Int) (n c bk k a : Int) : 0 ≤ hsF f n c bk k a := by
  unfold hsF
  (repeat' split) <;> omega
theorem hF_n (f : Int → Int) (N i : Int) : 0 ≤ hF f N i := hsF_n _ _ _ _ _ _
theorem op_kind {C D R S : jm} {r r2 : Int} (h : RDA C R) (hG : RG1 R) (hI : RI R) {x y z : Int} (f : FR W_c_PacketWall_kind_x C D) (p : (((x < 0 ∨ 23 < x ∨ C (xe 2 x) 1 = -1) ∧ r = -2) ∨ (((0 ≤ x ∧ x ≤ 23) ∧ C (xe 2 x) 1 ≠ -1) ∧ ∃ C_ : Int, HE (rf R x) (C (xe 2 x) 1) C_ ∧ r = kA (rf R x) (C (xe 2 x) 1) C_ y))) (q : (((x < 0 ∨ 23 < x ∨ R 600 x = -1) ∧ r2 = -2) ∨ (((0 ≤ x ∧ x ≤ 23) ∧ R 600 x ≠ -1) ∧ ∃ C_ : Int, HE (rf R x) (R 600 x) C_ ∧ r2 = kA (rf R x) (R 600 x) C_ y))) (hf : ∀ (a : Nat) (i : Int), a ≠ 598 → a ≠ 603 → a ≠ 604 → a ≠ 605 → S a i = R a i) (hk : ∀ (i : Int), i ≠ 6 → i ≠ 10 → i ≠ 11 → i ≠ 12 → S 598 i = R 598 i) : RDA D S ∧ r = r2 := by
  refine ⟨⟨((h.1.f f rfl).r (fun i => hf 599 i (by decide) (by decide) (by decide) (by decide)) (hk 1 (by decide) (by decide) (by decide) (by decide))), ((h.2.1.f f rfl).r (fun a i _ _ => hf a i (by omega) (by omega) (by omega) (by omega))), ((h.2.2.1.f f rfl).r (fun i _ _ => (hk i (by omega) (by omega) (by omega) (by omega)))), ((h.2.2.2.1.f f rfl).r (fun i => hf 622 i (by decide) (by decide) (by decide) (by decide)) (hk 34 (by decide) (by decide) (by decide) (by decide))), ((h.2.2.2.2.1.f f rfl).r (fun a i _ _ => hf a i (by omega) (by omega) (by omega) (by omega))), ((h.2.2.2.2.2.1.f f rfl).r (fun a i _ _ => hf a i (by omega) (by omega) (by omega) (by omega))), ((h.2.2.2.2.2.2.f f rfl).r hG hI (fun a i _ _ => hf a i (by omega) (by omega) (by omega) (by omega)))⟩, ?_⟩
  by_cases hx : 0 ≤ x ∧ x ≤ 23
  · have hN := (h.2.1 x (by omega) (by omega)).1
    rw [hN] at p
    rcases p with p | ⟨p0, c1, p1, p2⟩ <;> rcases q with q | ⟨q0, c2, q1, q2⟩
    · omega
    · exact absurd p.1 (by omega)
    · exact absurd q.1 (by omega)
    · have e := HE.u p1 q1
      subst e
      rw [p2, q2]
  · rcases p with p | p <;> rcases q with q | q
    · omega
    · exact absurd q.1.1 hx
    · exact absurd p.1.1 hx
    · exact absurd p.1.1 hx
end
