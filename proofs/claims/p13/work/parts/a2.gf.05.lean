section
theorem RDl.f {W : List (Nat × Nat)} {C D R : jm} (h : RDl C R) (f : FR W C D) (s : ksep W [(41, 1000)] = true) : RDl D R := fun i i0 i1 => by
  rw [f.s s (show kd 14 = 41 from rfl) 1000 (by decide) i (Or.inl rfl)]
  exact h i i0 i1
theorem RDo.f {W : List (Nat × Nat)} {C D R : jm} (h : RDo C R) (f : FR W C D) (s : ksep W [(10, 1000), (11, 1000), (12, 1000)] = true) : RDo D R := by
  have e1 : ∀ i : Int, D 26 i = C 26 i := fun i => f.s s (show kd 26 = 10 from rfl) 1000 (by decide) i (Or.inl rfl)
  have e2 : ∀ i : Int, D 27 i = C 27 i := fun i => f.s s (show kd 27 = 11 from rfl) 1000 (by decide) i (Or.inl rfl)
  have e3 : ∀ i : Int, D 28 i = C 28 i := fun i => f.s s (show kd 28 = 12 from rfl) 1000 (by decide) i (Or.inl rfl)
  refine ⟨fun y => by rw [e2]; exact h.1 y, fun k k0 k1 => ?_⟩
  rw [e1, e2, e3]
  exact h.2 k k0 k1
theorem FL.e {C D R : jm} {t : Nat} {f : Int} (h : FL C R t f) (e0 : ∀ k : Int, k = 1 ∨ k = 2 ∨ k = 5 ∨ k = 6 ∨ k = 12 ∨ k = 13 ∨ k = 14 ∨ k = 15 → D t k = C t k) (e : ∀ (d : Nat) (k : Int), 1 ≤ d → d ≤ 7 → D (t + d) k = C (t + d) k) : FL D R t f := by
  obtain ⟨h1, h2, h3, h4, h5⟩ := h
  refine ⟨?_, fun s s0 s1 => ?_, ?_, ?_, h5⟩
  · rw [e0 1 (by decide), e0 2 (by decide), e0 5 (by decide), e0 6 (by decide), e0 13 (by decide)]; exact h1
  · rw [e 1 s (by decide) (by decide), e 2 s (by decide) (by decide), e 3 s (by decide) (by decide), e 4 s (by decide) (by decide), e 5 s (by decide) (by decide), e 6 s (by decide) (by decide), e 7 s (by decide) (by decide)]; exact h2 s s0 s1
  · rw [e0 12 (by decide)]; exact h3
  · rw [e0 14 (by decide), e0 15 (by decide)]; exact h4
theorem kF {t : Nat} (k : kd t = 1) : kd (t + 1) = 2 ∧ kd (t + 2) = 7 ∧ kd (t + 3) = 5 ∧ kd (t + 4) = 4 ∧ kd (t + 5) = 8 ∧ kd (t + 6) = 6 ∧ kd (t + 7) = 3 := ⟨(kf_1_3 k).2, (kf_1_4 k).2, (kf_1_7 k).2, (kf_1_8 k).2, (kf_1_9 k).2, (kf_1_10 k).2, (kf_1_11 k).2⟩
theorem RDw.f {W : List (Nat × Nat)} {C D R : jm} (h : RDw C R) (f : FR W C D) (s : ksep W [(1, 0), (1, 1), (1, 2), (1, 5), (1, 6), (1, 12), (1, 13), (1, 14), (1, 15), (2, 1000), (3, 1000), (4, 1000), (5, 1000), (6, 1000), (7, 1000), (8, 1000), (9, 0), (9, 1)] = true) : RDw D R := by
  have e0 : D 15 0 = C 15 0 := f.s s (show kd 15 = 9 from rfl) 0 (by decide) 0 (Or.inr rfl)
  have e1 : D 15 1 = C 15 1 := f.s s (show kd 15 = 9 from rfl) 1 (by decide) 1 (Or.inr rfl)
  refine ⟨by rw [e0, e1]; exact h.1, fun i i0 i1 => ?_⟩
  rw [e0]
  have k := kV h.1.1 i0 i1
  have kf := kF k
  have q := h.2 i i0 i1
  refine ⟨by rw [f.s s k 0 (by decide) 0 (Or.inr rfl)]; exact q.1, fun u => (q.2 u).e (fun j hj => ?_) (fun d j d0 d1 => ?_)⟩
  · rcases hj with rfl | rfl | rfl | rfl | rfl | rfl | rfl | rfl
    · exact f.s s k 1 (by decide) 1 (Or.inr rfl)
    · exact f.s s k 2 (by decide) 2 (Or.inr rfl)
    · exact f.s s k 5 (by decide) 5 (Or.inr rfl)
    · exact f.s s k 6 (by decide) 6 (Or.inr rfl)
    · exact f.s s k 12 (by decide) 12 (Or.inr rfl)
    · exact f.s s k 13 (by decide) 13 (Or.inr rfl)
    · exact f.s s k 14 (by decide) 14 (Or.inr rfl)
    · exact f.s s k 15 (by decide) 15 (Or.inr rfl)
  · rcases (show d = 1 ∨ d = 2 ∨ d = 3 ∨ d = 4 ∨ d = 5 ∨ d = 6 ∨ d = 7 by omega) with rfl | rfl | rfl | rfl | rfl | rfl | rfl
    · exact f.s s kf.1 1000 (by decide) j (Or.inl rfl)
    · exact f.s s kf.2.1 1000 (by decide) j (Or.inl rfl)
    · exact f.s s kf.2.2.1 1000 (by decide) j (Or.inl rfl)
    · exact f.s s kf.2.2.2.1 1000 (by decide) j (Or.inl rfl)
    · exact f.s s kf.2.2.2.2.1 1000 (by decide) j (Or.inl rfl)
    · exact f.s s kf.2.2.2.2.2.1 1000 (by decide) j (Or.inl rfl)
    · exact f.s s kf.2.2.2.2.2.2 1000 (by decide) j (Or.inl rfl)
/-- flows whose cells are as they were -/
theorem RDw.e {C D R : jm} (h : RDw C R) (e : ∀ (b : Nat) (k : Int), 29 ≤ b → b ≤ 412 → D b k = C b k) (e0 : D 15 0 = C 15 0) (e1 : D 15 1 = C 15 1) : RDw D R := by
  refine ⟨by rw [e0, e1]; exact h.1, fun i i0 i1 => ?_⟩
  rw [e0]
  have x := xfl (V := C 15 0) h.1.1 ⟨i0, i1⟩
  have q := h.2 i i0 i1
  exact ⟨by rw [e _ 0 (by omega) (by omega)]; exact q.1, fun u => (q.2 u).e (fun j _ => e _ j (by omega) (by omega)) (fun d j d0 d1 => e _ j (by omega) (by omega))⟩
theorem GL.e {C D R : jm} {G : Nat} {g : Int} (h : GL C R G g) (e0 : ∀ k : Int, k = 1 ∨ k = 2 ∨ k = 3 ∨ k = 4 ∨ k = 5 ∨ k = 6 ∨ k = 7 ∨ k = 8 ∨ k = 11 ∨ k = 12 ∨ k = 13 → D G k = C G k) (e1 : ∀ k : Int, D (G + 1) k = C (G + 1) k) (e2 : ∀ k : Int, D (G + 2) k = C (G + 2) k) : GL D R G g := by
  unfold GL at h ⊢
  simp only [e0 1 (by decide), e0 2 (by decide), e0 3 (by decide), e0 4 (by decide), e0 5 (by decide), e0 6 (by decide), e0 7 (by decide), e0 8 (by decide), e0 11 (by decide), e0 12 (by decide), e0 13 (by decide), e1, e2]
  exact h
theorem RDg.f {W : List (Nat × Nat)} {C D R : jm} (h : RDg C R) (f : FR W C D) (s : ksep W [(15, 0), (15, 1), (15, 2), (15, 3), (15, 4), (15, 5), (15, 6), (15, 7), (15, 8), (15, 11), (15, 12), (15, 13), (16, 1000), (17, 1000)] = true) : RDg D R := by
  refine ⟨h.1, fun g g0 g1 => ?_⟩
  have k := kGa g0 g1
  have k1 := (kf_15_9 k).2
  have k2 := (kf_15_10 k).2
  have q := h.2 g g0 g1
  refine ⟨by rw [f.s s k 0 (by decide) 0 (Or.inr rfl)]; exact q.1, fun u => (q.2 u).e (fun j hj => ?_) (fun j => f.s s k1 1000 (by decide) j (Or.inl rfl)) (fun j => f.s s k2 1000 (by decide) j (Or.inl rfl))⟩
  rcases hj with rfl | rfl | rfl | rfl | rfl | rfl | rfl | rfl | rfl | rfl | rfl
  · exact f.s s k 1 (by decide) 1 (Or.inr rfl)
  · exact f.s s k 2 (by decide) 2 (Or.inr rfl)
  · exact f.s s k 3 (by decide) 3 (Or.inr rfl)
  · exact f.s s k 4 (by decide) 4 (Or.inr rfl)
  · exact f.s s k 5 (by decide) 5 (Or.inr rfl)
  · exact f.s s k 6 (by decide) 6 (Or.inr rfl)
  · exact f.s s k 7 (by decide) 7 (Or.inr rfl)
  · exact f.s s k 8 (by decide) 8 (Or.inr rfl)
  · exact f.s s k 11 (by decide) 11 (Or.inr rfl)
  · exact f.s s k 12 (by decide) 12 (Or.inr rfl)
  · exact f.s s k 13 (by decide) 13 (Or.inr rfl)
/-! frames: the reference's cells -/
theorem RDt.r {C R S : jm} (h : RDt C R) (e : ∀ i : Int, S 599 i = R 599 i) (e1 : S 598 1 = R 598 1) : RDt C S := ⟨h.1.trans (funext (fun i => (e i).symm)), h.2.trans e1.symm⟩
theorem RDp.r {C R S : jm} (h : RDp C R) (e : ∀ (a : Nat) (i : Int), 600 ≤ a → a ≤ 601 → S a i = R a i) : RDp C S := fun p p0 p1 => by
  refine ⟨?_, fun i i0 i1 => ?_⟩
  · rw [e 600 p (by decide) (by decide)]; exact (h p p0 p1).1
  · rw [e 601 _ (by decide) (by decide)]; exact (h p p0 p1).2 i i0 i1
theorem RDf.r {C R S : jm} (h : RDf C R) (e : ∀ i : Int, 13 ≤ i → i ≤ 16 → S 598 i = R 598 i) : RDf C S := by
  unfold RDf
  rw [e 13 (by decide) (by decide), e 14 (by decide) (by decide), e 15 (by decide) (by decide), e 16 (by decide) (by decide)]
  exact h
theorem RDl.r {C R S : jm} (h : RDl C R) (e : ∀ i : Int, S 622 i = R 622 i) (e1 : S 598 34 = R 598 34) : RDl C S := fun i i0 i1 => by
  rw [e, e1]
  exact h i i0 i1
theorem RDo.r {C R S : jm} (h : RDo C R) (e : ∀ (a : Nat) (i : Int), 643 ≤ a → a ≤ 646 → S a i = R a i) : RDo C S := ⟨h.1, fun k k0 k1 => by
  rw [e 643 k (by decide) (by decide), e 644 k (by decide) (by decide), e 645 k (by decide) (by decide), e 646 k (by decide) (by decide)]
  exact h.2 k k0 k1⟩
theorem l6x_e {R S : jm} {j : Int} (h2 : S 632 j = R 632 j) (h3 : S 633 j = R 633 j) : l6x S j = l6x R j := by
  unfold l6x
  rw [h2, h3]
theorem FL.r {C R S : jm} {t : Nat} {f : Int} (h : FL C R t f) (e1 : ∀ b : Nat, (b = 628 ∨ b = 629 ∨ b = 638 ∨ b = 639 ∨ b = 640 ∨ b = 641 ∨ b = 642) → S b f = R b f) (e2 : ∀ (b : Nat) (s : Int), 630 ≤ b → b ≤ 637 → 0 ≤ s → s < 2 → S b (2 * f + s) = R b (2 * f + s)) : FL C S t f := by
  obtain ⟨h1, h2, h3, h4, h5⟩ := h
  have z0 := fun b h0 h1 => e2 b 0 h0 h1 (by decide) (by decide)
  have z1 := fun b h0 h1 => e2 b 1 h0 h1 (by decide) (by decide)
  simp only [Int.add_zero] at z0
  refine ⟨?_, fun s s0 s1 => ?_, ?_, ?_, ?_⟩
  · rw [e1 628 (by decide), e1 629 (by decide), e1 638 (by decide), e1 639 (by decide), e1 640 (by decide)]; exact h1
  · rw [e2 630 s (by decide) (by decide) s0 s1, e2 631 s (by decide) (by decide) s0 s1, e2 635 s (by decide) (by decide) s0 s1, e2 636 s (by decide) (by decide) s0 s1, e2 637 s (by decide) (by decide) s0 s1, l6x_e (e2 632 s (by decide) (by decide) s0 s1) (e2 633 s (by decide) (by decide) s0 s1), e2 632 s (by decide) (by decide) s0 s1]; exact h2 s s0 s1
  · rw [z1 634 (by decide) (by decide), z0 634 (by decide) (by decide)]; exact h3
  · rw [e1 640 (by decide), e1 641 (by decide), e1 642 (by decide), e1 628 (by decide), e1 629 (by decide)]; exact h4
  · rw [e1 629 (by decide), e1 638 (by decide)]; exact h5
theorem RDw.r {C R S : jm} (h : RDw C R) (e : ∀ (a : Nat) (i : Int), 627 ≤ a → a ≤ 642 → S a i = R a i) : RDw C S := ⟨h.1, fun f f0 f1 => by
  have q := h.2 f f0 f1
  refine ⟨by rw [e 627 f (by decide) (by decide)]; exact q.1, fun u => ?_⟩
  rw [e 627 f (by decide) (by decide)] at u
  exact (q.2 u).r (fun b hb => e b f (by omega) (by omega)) (fun b s b0 b1 _ _ => e b _ (by omega) (by omega))⟩
theorem wR_e {R S : jm} {g : Int} (h : ∀ k : Int, 0 ≤ k → k < 360 → S 615 (360 * g + k) = R 615 (360 * g + k) ∧ S 616 (360 * g + k) = R 616 (360 * g + k)) {k : Int} (k0 : 0 ≤ k) (k1 : k < 360) : wR S g k = wR R g k := by
  unfold wR
  rw [(h k k0 k1).1, (h k k0 k1).2]
theorem lpf_m (w : Int) : lpf w ≤ 360 := by
  unfold lpf
  (repeat' split) <;> omega
end
