/-! ===== the data of both sides are the same ===== -/
def RDt (C R : jm) : Prop := C 1 = R 599 ∧ C 0 1 = R 598 1
def RDp (C R : jm) : Prop := ∀ p : Int, 0 ≤ p → p < 24 → C (xe 2 p) 1 = R 600 p ∧ ∀ i : Int, 0 ≤ i → i < 400 → C (xe 2 p + 1) i = R 601 (400 * p + i)
def RDf (C R : jm) : Prop := C 9 0 = (if R 598 13 = -1 then 0 else R 598 13) ∧ C 9 1 = R 598 14 ∧ C 9 2 = R 598 15 ∧ C 9 3 = R 598 16
def RDl (C R : jm) : Prop := ∀ i : Int, 0 ≤ i → i < 5 → C 14 i = if R 598 34 = 0 then -1 else R 622 i
def RDo (C R : jm) : Prop := (∀ y : Int, 0 ≤ C 27 y ∧ C 27 y ≤ 65535) ∧ ∀ k : Int, 0 ≤ k → k < 4 → (R 643 k = 0 → C 28 k = 0) ∧ (R 643 k ≠ 0 → C 26 k = R 644 k ∧ C 27 k = R 645 k ∧ C 28 k = R 646 k ∧ 1 ≤ C 28 k)
/-- a flow that lives -/
def FL (C R : jm) (t : Nat) (f : Int) : Prop := (C t 1 = R 628 f ∧ C t 2 = R 629 f ∧ C t 5 = R 638 f ∧ C t 6 = R 639 f ∧ C t 13 = R 640 f) ∧ (∀ s : Int, 0 ≤ s → s < 2 → (C (t + 1) s = R 630 (2 * f + s) ∧ C (t + 2) s = R 631 (2 * f + s) ∧ C (t + 5) s = R 635 (2 * f + s)) ∧ (C (t + 6) s = R 636 (2 * f + s) ∧ C (t + 7) s = R 637 (2 * f + s)) ∧ C (t + 4) s = R 632 (2 * f + s) ∧ C (t + 3) s = l6x R (2 * f + s)) ∧ (C t 12 = R 634 (2 * f + 1) ∧ R 634 (2 * f) = 1) ∧ ((R 640 f = -1 ∧ C t 15 = -1) ∨ (R 640 f ≠ -1 ∧ C t 14 = R 641 f ∧ C t 15 = R 642 f ∧ R 628 f = 0 ∧ R 629 f ≠ 1)) ∧ stOK (R 629 f) (R 638 f)
def FR1 (C R : jm) (t : Nat) (f : Int) : Prop := C t 0 = R 627 f ∧ (R 627 f ≠ 0 → FL C R t f)
def RDw (C R : jm) : Prop := ((16 ≤ C 15 0 ∧ C 15 0 ≤ 17) ∧ C 15 0 + C 15 1 = 33) ∧ ∀ f : Int, 0 ≤ f → f < 24 → FR1 C R (xe (C 15 0).toNat f) f
/-- a gathering that lives -/
def GL (C R : jm) (G : Nat) (g : Int) : Prop := (C G 1 = R 607 g ∧ C G 2 = R 608 g ∧ C G 3 = R 609 g ∧ C G 4 = R 610 g ∧ C G 5 = R 611 g ∧ C G 6 = R 612 g) ∧ (R 607 g = 2 ∨ R 607 g = 6) ∧ (C G 7 = R 614 g ∧ R 613 g = rbf (C G 7) (C G 8) ∧ (C G 7 = -1 ∨ (0 ≤ C G 7 ∧ C G 7 ≤ 360))) ∧ (∀ k : Int, 0 ≤ k → k < lpf (C G 7) → C (G + 1) k = wR R g k) ∧ C G 11 = R 617 g ∧ (R 617 g ≠ -1 → (∀ k : Int, 0 ≤ k → k < R 617 g → C (G + 2) k = R 618 (400 * g + k)) ∧ C G 12 = R 621 g ∧ (R 607 g = 6 → C G 13 = R 620 g ∧ R 618 (400 * g + R 619 g) = R 611 g) ∧ (R 607 g = 2 → R 617 g = R 621 g + 4 * (R 618 (400 * g + R 621 g) % 16) ∧ R 621 g + 20 ≤ R 617 g))
def GR1 (C R : jm) (G : Nat) (g : Int) : Prop := C G 0 = R 606 g ∧ (R 606 g ≠ 0 → GL C R G g)
/-- names of gatherings differ -/
def UN (R : jm) : Prop := ∀ g h : Int, 0 ≤ g → g < 8 → 0 ≤ h → h < 8 → R 606 g ≠ 0 → R 606 h ≠ 0 → (R 607 g = R 607 h ∧ R 608 g = R 608 h ∧ R 609 g = R 609 h ∧ R 610 g = R 610 h ∧ R 611 g = R 611 h) → g = h
def RDg (C R : jm) : Prop := UN R ∧ ∀ g : Int, 0 ≤ g → g < 8 → GR1 C R (xe 10 g) g
def RDA (C R : jm) : Prop := RDt C R ∧ RDp C R ∧ RDf C R ∧ RDl C R ∧ RDo C R ∧ RDw C R ∧ RDg C R
theorem xpk0 : ∀ n : Nat, n < 24 → xe 2 (n : Int) = 526 + 2 * n := by decide +kernel
theorem xpk {g : Int} (h : 0 ≤ g ∧ g < 24) : xe 2 g = 526 + 2 * g.toNat := by
  obtain ⟨n, rfl⟩ := Int.eq_ofNat_of_zero_le h.1
  exact xpk0 n (by omega)
theorem kP {p : Int} (h0 : 0 ≤ p) (h1 : p < 24) : kd (xe 2 p) = 33 ∧ kd (xe 2 p + 1) = 34 := by
  have k := (kxe_42 (show kd 2 = 42 from rfl) h0 h1).2
  exact ⟨k, (kf_33_0 k).2⟩
/-! frames: the class's cells -/
theorem RDt.f {W : List (Nat × Nat)} {C D R : jm} (h : RDt C R) (f : FR W C D) (s : ksep W [(35, 1), (43, 1000)] = true) : RDt D R := by
  refine ⟨?_, ?_⟩
  · rw [← h.1]
    exact funext (fun i => f.s s (show kd 1 = 43 from rfl) 1000 (by decide) i (Or.inl rfl))
  · rw [← h.2]
    exact f.s s (show kd 0 = 35 from rfl) 1 (by decide) 1 (Or.inr rfl)
theorem RDp.f {W : List (Nat × Nat)} {C D R : jm} (h : RDp C R) (f : FR W C D) (s : ksep W [(33, 1), (34, 1000)] = true) : RDp D R := fun p p0 p1 => by
  have k := kP p0 p1
  refine ⟨?_, fun i i0 i1 => ?_⟩
  · rw [f.s s k.1 1 (by decide) 1 (Or.inr rfl)]; exact (h p p0 p1).1
  · rw [f.s s k.2 1000 (by decide) i (Or.inl rfl)]; exact (h p p0 p1).2 i i0 i1
theorem RDf.f {W : List (Nat × Nat)} {C D R : jm} (h : RDf C R) (f : FR W C D) (s : ksep W [(39, 1000)] = true) : RDf D R := by
  have e : ∀ i : Int, D 9 i = C 9 i := fun i => f.s s (show kd 9 = 39 from rfl) 1000 (by decide) i (Or.inl rfl)
  unfold RDf
  rw [e, e, e, e]
  exact h
theorem RDl.f {W : List (Nat × Nat)} {C D R : jm} (h : RDl C R) (f : FR W C D) (s : ksep W [(41, 1000)] = true) : RDl D R := fun i i0 i1 => by
  rw [f.s s (show kd 14 = 41 from rfl) 1000 (by decide) i (Or.inl rfl)]
  exact h i i0 i1
theorem RDo.f {W : List (Nat × Nat)} {C D R : jm} (h : RDo C R) (f : FR W C D) (s : ksep W [(10, 1000), (11, 1000), (12, 1000)] = true) : RDo D R := by
  have e1 : ∀ i : Int, D 26 i = C 26 i := fun i => f.s s (show kd 26 = 10 from rfl) 1000 (by decide) i (Or.inl rfl)
  have e2 : ∀ i : Int, D 27 i = C 27 i := fun i => f.s s (show kd 27 = 11 from rfl) 1000 (by decide) i (Or.inl rfl)
  have e3 : ∀ i : Int, D 28 i = C 28 i := fun i => f.s s (show kd 28 = 12 from rfl) 1000 (by decide) i (Or.inl rfl)
  refine ⟨fun y => by rw [e2]; exact h.1 y, fun k k0 k1 => ?_⟩
  rw [e1, e2, e3]
  exact h.2 k k0 k1
theorem FL.e {C D R : jm} {t : Nat} {f : Int} (h : FL C R t f) (e0 : ∀ k : Int, k = 1 ∨ k = 2 ∨ k = 5 ∨ k = 6 ∨ k = 12 ∨ k = 13 ∨ k = 14 ∨ k = 15 → D t k = C t k) (e : ∀ (d : Nat) (k : Int), 1 ≤ d → d ≤ 7 → D (t + d) k = C (t + d) k) : FL D R t f := by
  obtain ⟨h1, h2, h3, h4, h5⟩ := h
  refine ⟨?_, fun s s0 s1 => ?_, ?_, ?_, h5⟩
  · rw [e0 1 (by decide), e0 2 (by decide), e0 5 (by decide), e0 6 (by decide), e0 13 (by decide)]; exact h1
  · rw [e 1 s (by decide) (by decide), e 2 s (by decide) (by decide), e 3 s (by decide) (by decide), e 4 s (by decide) (by decide), e 5 s (by decide) (by decide), e 6 s (by decide) (by decide), e 7 s (by decide) (by decide)]; exact h2 s s0 s1
  · rw [e0 12 (by decide)]; exact h3
  · rw [e0 14 (by decide), e0 15 (by decide)]; exact h4
theorem kF {t : Nat} (k : kd t = 1) : kd (t + 1) = 2 ∧ kd (t + 2) = 7 ∧ kd (t + 3) = 5 ∧ kd (t + 4) = 4 ∧ kd (t + 5) = 8 ∧ kd (t + 6) = 6 ∧ kd (t + 7) = 3 := ⟨(kf_1_3 k).2, (kf_1_4 k).2, (kf_1_7 k).2, (kf_1_8 k).2, (kf_1_9 k).2, (kf_1_10 k).2, (kf_1_11 k).2⟩
theorem RDw.f {W : List (Nat × Nat)} {C D R : jm} (h : RDw C R) (f : FR W C D) (s : ksep W [(1, 0), (1, 1), (1, 2), (1, 5), (1, 6), (1, 12), (1, 13), (1, 14), (1, 15), (2, 1000), (3, 1000), (4, 1000), (5, 1000), (6, 1000), (7, 1000), (8, 1000), (9, 0), (9, 1)] = true) : RDw D R := by
  have e0 : D 15 0 = C 15 0 := f.s s (show kd 15 = 9 from rfl) 0 (by decide) 0 (Or.inr rfl)
  have e1 : D 15 1 = C 15 1 := f.s s (show kd 15 = 9 from rfl) 1 (by decide) 1 (Or.inr rfl)
  refine ⟨by rw [e0, e1]; exact h.1, fun i i0 i1 => ?_⟩
  rw [e0]
  have k := kV h.1.1 i0 i1
  have kf := kF k
  have q := h.2 i i0 i1
  refine ⟨by rw [f.s s k 0 (by decide) 0 (Or.inr rfl)]; exact q.1, fun u => (q.2 u).e (fun j hj => ?_) (fun d j d0 d1 => ?_)⟩
  · rcases hj with rfl | rfl | rfl | rfl | rfl | rfl | rfl | rfl
    · exact f.s s k 1 (by decide) 1 (Or.inr rfl)
    · exact f.s s k 2 (by decide) 2 (Or.inr rfl)
    · exact f.s s k 5 (by decide) 5 (Or.inr rfl)
    · exact f.s s k 6 (by decide) 6 (Or.inr rfl)
    · exact f.s s k 12 (by decide) 12 (Or.inr rfl)
    · exact f.s s k 13 (by decide) 13 (Or.inr rfl)
    · exact f.s s k 14 (by decide) 14 (Or.inr rfl)
    · exact f.s s k 15 (by decide) 15 (Or.inr rfl)
  · rcases (show d = 1 ∨ d = 2 ∨ d = 3 ∨ d = 4 ∨ d = 5 ∨ d = 6 ∨ d = 7 by omega) with rfl | rfl | rfl | rfl | rfl | rfl | rfl
    · exact f.s s kf.1 1000 (by decide) j (Or.inl rfl)
    · exact f.s s kf.2.1 1000 (by decide) j (Or.inl rfl)
    · exact f.s s kf.2.2.1 1000 (by decide) j (Or.inl rfl)
    · exact f.s s kf.2.2.2.1 1000 (by decide) j (Or.inl rfl)
    · exact f.s s kf.2.2.2.2.1 1000 (by decide) j (Or.inl rfl)
    · exact f.s s kf.2.2.2.2.2.1 1000 (by decide) j (Or.inl rfl)
    · exact f.s s kf.2.2.2.2.2.2 1000 (by decide) j (Or.inl rfl)
/-- flows whose cells are as they were -/
theorem RDw.e {C D R : jm} (h : RDw C R) (e : ∀ (b : Nat) (k : Int), 29 ≤ b → b ≤ 412 → D b k = C b k) (e0 : D 15 0 = C 15 0) (e1 : D 15 1 = C 15 1) : RDw D R := by
  refine ⟨by rw [e0, e1]; exact h.1, fun i i0 i1 => ?_⟩
  rw [e0]
  have x := xfl (V := C 15 0) h.1.1 ⟨i0, i1⟩
  have q := h.2 i i0 i1
  exact ⟨by rw [e _ 0 (by omega) (by omega)]; exact q.1, fun u => (q.2 u).e (fun j _ => e _ j (by omega) (by omega)) (fun d j d0 d1 => e _ j (by omega) (by omega))⟩
theorem GL.e {C D R : jm} {G : Nat} {g : Int} (h : GL C R G g) (e0 : ∀ k : Int, k = 1 ∨ k = 2 ∨ k = 3 ∨ k = 4 ∨ k = 5 ∨ k = 6 ∨ k = 7 ∨ k = 8 ∨ k = 11 ∨ k = 12 ∨ k = 13 → D G k = C G k) (e1 : ∀ k : Int, D (G + 1) k = C (G + 1) k) (e2 : ∀ k : Int, D (G + 2) k = C (G + 2) k) : GL D R G g := by
  unfold GL at h ⊢
  simp only [e0 1 (by decide), e0 2 (by decide), e0 3 (by decide), e0 4 (by decide), e0 5 (by decide), e0 6 (by decide), e0 7 (by decide), e0 8 (by decide), e0 11 (by decide), e0 12 (by decide), e0 13 (by decide), e1, e2]
  exact h
theorem RDg.f {W : List (Nat × Nat)} {C D R : jm} (h : RDg C R) (f : FR W C D) (s : ksep W [(15, 0), (15, 1), (15, 2), (15, 3), (15, 4), (15, 5), (15, 6), (15, 7), (15, 8), (15, 11), (15, 12), (15, 13), (16, 1000), (17, 1000)] = true) : RDg D R := by
  refine ⟨h.1, fun g g0 g1 => ?_⟩
  have k := kGa g0 g1
  have k1 := (kf_15_9 k).2
  have k2 := (kf_15_10 k).2
  have q := h.2 g g0 g1
  refine ⟨by rw [f.s s k 0 (by decide) 0 (Or.inr rfl)]; exact q.1, fun u => (q.2 u).e (fun j hj => ?_) (fun j => f.s s k1 1000 (by decide) j (Or.inl rfl)) (fun j => f.s s k2 1000 (by decide) j (Or.inl rfl))⟩
  rcases hj with rfl | rfl | rfl | rfl | rfl | rfl | rfl | rfl | rfl | rfl | rfl
  · exact f.s s k 1 (by decide) 1 (Or.inr rfl)
  · exact f.s s k 2 (by decide) 2 (Or.inr rfl)
  · exact f.s s k 3 (by decide) 3 (Or.inr rfl)
  · exact f.s s k 4 (by decide) 4 (Or.inr rfl)
  · exact f.s s k 5 (by decide) 5 (Or.inr rfl)
  · exact f.s s k 6 (by decide) 6 (Or.inr rfl)
  · exact f.s s k 7 (by decide) 7 (Or.inr rfl)
  · exact f.s s k 8 (by decide) 8 (Or.inr rfl)
  · exact f.s s k 11 (by decide) 11 (Or.inr rfl)
  · exact f.s s k 12 (by decide) 12 (Or.inr rfl)
  · exact f.s s k 13 (by decide) 13 (Or.inr rfl)
/-! frames: the reference's cells -/
theorem RDt.r {C R S : jm} (h : RDt C R) (e : ∀ i : Int, S 599 i = R 599 i) (e1 : S 598 1 = R 598 1) : RDt C S := ⟨h.1.trans (funext (fun i => (e i).symm)), h.2.trans e1.symm⟩
theorem RDp.r {C R S : jm} (h : RDp C R) (e : ∀ (a : Nat) (i : Int), 600 ≤ a → a ≤ 601 → S a i = R a i) : RDp C S := fun p p0 p1 => by
  refine ⟨?_, fun i i0 i1 => ?_⟩
  · rw [e 600 p (by decide) (by decide)]; exact (h p p0 p1).1
  · rw [e 601 _ (by decide) (by decide)]; exact (h p p0 p1).2 i i0 i1
theorem RDf.r {C R S : jm} (h : RDf C R) (e : ∀ i : Int, 13 ≤ i → i ≤ 16 → S 598 i = R 598 i) : RDf C S := by
  unfold RDf
  rw [e 13 (by decide) (by decide), e 14 (by decide) (by decide), e 15 (by decide) (by decide), e 16 (by decide) (by decide)]
  exact h
theorem RDl.r {C R S : jm} (h : RDl C R) (e : ∀ i : Int, S 622 i = R 622 i) (e1 : S 598 34 = R 598 34) : RDl C S := fun i i0 i1 => by
  rw [e, e1]
  exact h i i0 i1
theorem RDo.r {C R S : jm} (h : RDo C R) (e : ∀ (a : Nat) (i : Int), 643 ≤ a → a ≤ 646 → S a i = R a i) : RDo C S := ⟨h.1, fun k k0 k1 => by
  rw [e 643 k (by decide) (by decide), e 644 k (by decide) (by decide), e 645 k (by decide) (by decide), e 646 k (by decide) (by decide)]
  exact h.2 k k0 k1⟩
theorem l6x_e {R S : jm} {j : Int} (h2 : S 632 j = R 632 j) (h3 : S 633 j = R 633 j) : l6x S j = l6x R j := by
  unfold l6x
  rw [h2, h3]
theorem FL.r {C R S : jm} {t : Nat} {f : Int} (h : FL C R t f) (e1 : ∀ b : Nat, (b = 628 ∨ b = 629 ∨ b = 638 ∨ b = 639 ∨ b = 640 ∨ b = 641 ∨ b = 642) → S b f = R b f) (e2 : ∀ (b : Nat) (s : Int), 630 ≤ b → b ≤ 637 → 0 ≤ s → s < 2 → S b (2 * f + s) = R b (2 * f + s)) : FL C S t f := by
  obtain ⟨h1, h2, h3, h4, h5⟩ := h
  have z0 := fun b h0 h1 => e2 b 0 h0 h1 (by decide) (by decide)
  have z1 := fun b h0 h1 => e2 b 1 h0 h1 (by decide) (by decide)
  simp only [Int.add_zero] at z0
  refine ⟨?_, fun s s0 s1 => ?_, ?_, ?_, ?_⟩
  · rw [e1 628 (by decide), e1 629 (by decide), e1 638 (by decide), e1 639 (by decide), e1 640 (by decide)]; exact h1
  · rw [e2 630 s (by decide) (by decide) s0 s1, e2 631 s (by decide) (by decide) s0 s1, e2 635 s (by decide) (by decide) s0 s1, e2 636 s (by decide) (by decide) s0 s1, e2 637 s (by decide) (by decide) s0 s1, l6x_e (e2 632 s (by decide) (by decide) s0 s1) (e2 633 s (by decide) (by decide) s0 s1), e2 632 s (by decide) (by decide) s0 s1]; exact h2 s s0 s1
  · rw [z1 634 (by decide) (by decide), z0 634 (by decide) (by decide)]; exact h3
  · rw [e1 640 (by decide), e1 641 (by decide), e1 642 (by decide), e1 628 (by decide), e1 629 (by decide)]; exact h4
  · rw [e1 629 (by decide), e1 638 (by decide)]; exact h5
theorem RDw.r {C R S : jm} (h : RDw C R) (e : ∀ (a : Nat) (i : Int), 627 ≤ a → a ≤ 642 → S a i = R a i) : RDw C S := ⟨h.1, fun f f0 f1 => by
  have q := h.2 f f0 f1
  refine ⟨by rw [e 627 f (by decide) (by decide)]; exact q.1, fun u => ?_⟩
  rw [e 627 f (by decide) (by decide)] at u
  exact (q.2 u).r (fun b hb => e b f (by omega) (by omega)) (fun b s b0 b1 _ _ => e b _ (by omega) (by omega))⟩
theorem wR_e {R S : jm} {g : Int} (h : ∀ k : Int, 0 ≤ k → k < 360 → S 615 (360 * g + k) = R 615 (360 * g + k) ∧ S 616 (360 * g + k) = R 616 (360 * g + k)) {k : Int} (k0 : 0 ≤ k) (k1 : k < 360) : wR S g k = wR R g k := by
  unfold wR
  rw [(h k k0 k1).1, (h k k0 k1).2]
theorem lpf_m (w : Int) : lpf w ≤ 360 := by
  unfold lpf
  (repeat' split) <;> omega
/-- a live gathering whose cells of the reference are as they were -/
theorem GL.r {C R S : jm} {G : Nat} {g : Int} (h : GL C R G g) (hr : R 617 g ≤ 400) (hq : R 617 g ≠ -1 → (0 ≤ R 621 g ∧ R 621 g < 400) ∧ (0 ≤ R 619 g ∧ R 619 g < 400)) (e1 : ∀ b : Nat, 607 ≤ b → b ≤ 621 → b ≠ 615 → b ≠ 616 → b ≠ 618 → S b g = R b g) (e5 : ∀ k : Int, 0 ≤ k → k < 360 → S 615 (360 * g + k) = R 615 (360 * g + k) ∧ S 616 (360 * g + k) = R 616 (360 * g + k)) (e8 : ∀ k : Int, 0 ≤ k → k < 400 → S 618 (400 * g + k) = R 618 (400 * g + k)) : GL C S G g := by
  obtain ⟨h1, h2, h3, h4, h5, h6⟩ := h
  refine ⟨?_, ?_, ?_, fun k k0 k1 => ?_, ?_, fun u => ?_⟩
  · rw [e1 607 (by decide) (by decide) (by decide) (by decide) (by decide), e1 608 (by decide) (by decide) (by decide) (by decide) (by decide), e1 609 (by decide) (by decide) (by decide) (by decide) (by decide), e1 610 (by decide) (by decide) (by decide) (by decide) (by decide), e1 611 (by decide) (by decide) (by decide) (by decide) (by decide), e1 612 (by decide) (by decide) (by decide) (by decide) (by decide)]; exact h1
  · rw [e1 607 (by decide) (by decide) (by decide) (by decide) (by decide)]; exact h2
  · rw [e1 614 (by decide) (by decide) (by decide) (by decide) (by decide), e1 613 (by decide) (by decide) (by decide) (by decide) (by decide)]; exact h3
  · have := lpf_m (C G 7)
    rw [wR_e e5 k0 (by omega)]; exact h4 k k0 k1
  · rw [e1 617 (by decide) (by decide) (by decide) (by decide) (by decide)]; exact h5
  · rw [e1 617 (by decide) (by decide) (by decide) (by decide) (by decide)] at u ⊢
    obtain ⟨g1, g2, g3, g4⟩ := h6 u
    have r := hq u
    rw [e1 621 (by decide) (by decide) (by decide) (by decide) (by decide), e1 607 (by decide) (by decide) (by decide) (by decide) (by decide), e1 620 (by decide) (by decide) (by decide) (by decide) (by decide), e1 619 (by decide) (by decide) (by decide) (by decide) (by decide), e1 611 (by decide) (by decide) (by decide) (by decide) (by decide), e8 _ r.2.1 r.2.2, e8 _ r.1.1 r.1.2]
    exact ⟨fun k k0 k1 => by rw [e8 k k0 (by omega)]; exact g1 k k0 k1, g2, g3, g4⟩
theorem RG1.q {R : jm} (h : RG1 R) (hI : RI R) {g : Int} (g0 : 0 ≤ g) (u : R 606 g ≠ 0) : R 617 g ≤ 400 ∧ (R 617 g ≠ -1 → (0 ≤ R 621 g ∧ R 621 g < 400) ∧ (0 ≤ R 619 g ∧ R 619 g < 400)) := by
  have a : (-1 : Int) ≤ R 617 g ∧ R 617 g ≤ 400 := by have q := hI 617 g (by decide); rw [xri_row rfl rfl] at q; exact q
  have b : (0 : Int) ≤ R 619 g ∧ R 619 g ≤ 400 := by have q := hI 619 g (by decide); rw [xri_row rfl rfl] at q; exact q
  refine ⟨a.2, fun v => ?_⟩
  have q := (h g g0 u).2 v
  omega
theorem UN.r {R S : jm} (h : UN R) (e : ∀ (a : Nat) (i : Int), 606 ≤ a → a ≤ 611 → S a i = R a i) : UN S := fun g k g0 g1 k0 k1 u v w => by
  rw [e 606 _ (by decide) (by decide)] at u v
  rw [e 607 _ (by decide) (by decide), e 607 _ (by decide) (by decide), e 608 _ (by decide) (by decide), e 608 _ (by decide) (by decide), e 609 _ (by decide) (by decide), e 609 _ (by decide) (by decide), e 610 _ (by decide) (by decide), e 610 _ (by decide) (by decide), e 611 _ (by decide) (by decide), e 611 _ (by decide) (by decide)] at w
  exact h g k g0 g1 k0 k1 u v w
theorem RDg.r {C R S : jm} (h : RDg C R) (hG : RG1 R) (hI : RI R) (e : ∀ (a : Nat) (i : Int), 606 ≤ a → a ≤ 621 → S a i = R a i) : RDg C S := by
  refine ⟨h.1.r (fun a i h0 h1 => e a i h0 (by omega)), fun g g0 g1 => ?_⟩
  have q := h.2 g g0 g1
  refine ⟨by rw [e 606 g (by decide) (by decide)]; exact q.1, fun u => ?_⟩
  rw [e 606 g (by decide) (by decide)] at u
  have z := RG1.q hG hI g0 u
  exact (q.2 u).r z.1 z.2 (fun b b0 b1 _ _ _ => e b g (by omega) b1) (fun k _ _ => ⟨e 615 _ (by decide) (by decide), e 616 _ (by decide) (by decide)⟩) (fun k _ _ => e 618 _ (by decide) (by decide))
theorem RDp.b {C R : jm} (h : RDp C R) (hI : RI R) : PBS C (rf R) := fun p p0 p1 i i0 i1 => ⟨(h p p0 p1).2 i i0 i1, rf_r hI p i⟩
/-- the class's cells alone -/
theorem RDA.c {C D R : jm} (h : RDA C R) (e : ∀ (a : Nat) (i : Int), a < 598 → D a i = C a i)   : RDA D R := by
  have f : FR [(0, 1000)] C D := fun a i hk => e a i (kd_lt (fun q => by
    rw [q] at hk
    have t : kw [(0, 1000)] 0 i = true := rfl
    rw [t] at hk
    exact absurd hk (by decide)))
  obtain ⟨h1, h2, h3, h4, h5, h6, h7⟩ := h
  exact ⟨h1.f f rfl, h2.f f rfl, h3.f f rfl, h4.f f rfl, h5.f f rfl, h6.f f rfl, h7.f f rfl⟩
