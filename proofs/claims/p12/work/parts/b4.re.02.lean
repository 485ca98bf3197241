section
theorem may_iff {M : jm} {f : Int → Int} {N C x I : Int} (h : TKC M f N C x I) (hk : 7 ≤ kA f N C I ∧ kA f N C I ≤ 9) (hn : M 598 60 = nxk (kA f N C I)) : mayF f N C I (M 598 60) ↔ mayE M x := by
  unfold mayF mayE
  rw [hn]
  rcases nxk_r hk with ⟨k, e⟩ | ⟨k, e⟩ | ⟨k, e⟩
  · have v := tk_v7 h.1 h.2.1 k
    have b := (HT.f h.1 h.2.1).2.1
    have e0 : M 601 (400 * x + M 604 (M 598 65)) = f (hY f N I) := by rw [h.2.2.1, b]; exact congrFun h.2.2.2.1 (hY f N I)
    rw [e, v, e0]
    constructor
    · intro u
      exact Or.inr ⟨by decide, Or.inr (u.2 rfl)⟩
    · intro u
      refine ⟨fun z => absurd z (by decide), fun _ => ?_⟩
      rcases u with u | u
      · exact absurd u.1 (by decide)
      · rcases u.2 with z | z
        · exact absurd z (by decide)
        · exact z
  · have v := (h.v k).1
    rw [e, v]
    constructor
    · intro u
      exact Or.inl ⟨rfl, u.1 rfl⟩
    · intro u
      refine ⟨fun _ => ?_, fun z => absurd z (by decide)⟩
      rcases u with u | u
      · exact u.2
      · exact absurd rfl u.1
  · rw [e]
    constructor
    · intro u
      exact Or.inr ⟨by decide, Or.inl rfl⟩
    · intro u
      exact ⟨fun z => absurd z (by decide), fun z => absurd z (by decide)⟩
theorem af_eq {M : jm} {x g s c z : Int} (h7 : ∀ i : Int, 0 ≤ i → i < 100 → M 647 i = xcv_5 i) (hc : clE M x = c) (hs : M 638 g = s) (hz : M 598 66 = z) (c5 : 0 ≤ c ∧ c ≤ 5) (s10 : 1 ≤ s ∧ s ≤ 10) (z1 : z = 0 ∨ z = 1) : afE M x g = tsB s c z := by
  unfold afE tsB
  rw [hc, hs, hz]
  by_cases u : c = 5
  · rw [if_pos u, if_neg (by omega)]
  · rw [if_neg u, if_pos (by omega), h7 _ (by omega) (by omega)]
theorem io_eq {C R : jm} {t : Nat} {x g c z q n : Int} (h : FL C R t g) (hz : R 598 66 = z) (z1 : z = 0 ∨ z = 1) (hc : c = 2 ∨ c = 4) (hq : sq6 R x = q) (hn : lg6 R x = n) : ioF C t z q n = io6 R x g c := by
  have fz := h.2.1 z (by omega) (by omega)
  have fo := h.2.1 (1 - z) (by omega) (by omega)
  have e1 : 2 * g + 1 - z = 2 * g + (1 - z) := by omega
  have an : (z = 1 ∨ C t 12 ≠ 0) ↔ R 634 (2 * g + (1 - z)) ≠ 0 := by
    rcases z1 with v | v
    · subst v
      rw [h.2.2.1.1]
      exact ⟨fun u => u.resolve_left (by decide), fun u => Or.inr u⟩
    · subst v
      rw [show 2 * g + (1 - 1) = 2 * g by omega, h.2.2.1.2]
      exact ⟨fun _ => by decide, fun _ => Or.inl rfl⟩
  unfold ioF io6
  rw [hz, hq, hn, e1, fz.2.2.1, fz.2.2.2, fo.1.2.2]
  by_cases v : R 632 (2 * g + z) = 0
  · rw [if_pos v, if_pos (Or.inr v)]
  · have e : l6x R (2 * g + z) = R 633 (2 * g + z) := by unfold l6x; exact if_neg v
    rw [e, if_neg v, if_neg (show ¬ ((c ≠ 2 ∧ c ≠ 4) ∨ R 632 (2 * g + z) = 0) by omega)]
    simp only [an]
theorem fp_forget {C R B B6 : jm} {t : Nat} {g : Int} (h : FL C R t g) (a : FGT C B t) (b : FG6 R B6 g (2 * g + 2)) (o : OFG R B6) : FP B B6 t g := by
  obtain ⟨a1, a2, a3, a4⟩ := a
  have b1 := fun s (s0 : 0 ≤ s) (s1 : s < (2 : Int)) => b.1 (2 * g + s) (by omega) (by omega)
  have o' : ∀ (a : Nat) (i : Int), (a < 632 ∨ 637 < a) → B6 a i = R a i := fun a i ha => o a i (by omega) (by omega) (by omega) (by omega) (by omega) (by omega)
  refine ⟨⟨?_, ?_, ?_⟩, fun s s0 s1 => ⟨⟨?_, ?_, ?_⟩, ⟨?_, ?_⟩, ?_, ?_⟩, ?_, ?_⟩
  · rw [a3 1 (by decide), o' 628 g (by decide)]; exact h.1.1
  · rw [a3 2 (by decide), o' 629 g (by decide)]; exact h.1.2.1
  · rw [a3 13 (by decide), o' 640 g (by decide)]; exact h.1.2.2.2.2
  · rw [a4 (t + 1) s (by omega) (by omega) (by omega) (by omega) (by omega) (by omega), o' 630 _ (by decide)]; exact (h.2.1 s s0 s1).1.1
  · rw [a4 (t + 2) s (by omega) (by omega) (by omega) (by omega) (by omega) (by omega), o' 631 _ (by decide)]; exact (h.2.1 s s0 s1).1.2.1
  · rw [(a1 s s0 s1).2.2.1, (b1 s s0 s1).2.2.2.1]
  · rw [(a1 s s0 s1).2.2.2.1, (b1 s s0 s1).2.2.2.2.1]
  · rw [(a1 s s0 s1).2.2.2.2, (b1 s s0 s1).2.2.2.2.2]
  · rw [(a1 s s0 s1).2.1, (b1 s s0 s1).1]
  · unfold l6x
    rw [(a1 s s0 s1).1, (b1 s s0 s1).1, if_pos rfl]
  · rw [a2, (b1 1 (by decide) (by decide)).2.2.1]
  · rw [o' 640 g (by decide), o' 641 g (by decide), o' 642 g (by decide), o' 628 g (by decide), o' 629 g (by decide), a3 14 (by decide), a3 15 (by decide)]
    exact h.2.2.2.1
theorem fp_begin {E E6 B B6 : jm} {t : Nat} {g : Int} (e : EQE E E6) (a : BGN E B t) (b : BF6 E6 B6 g) : FP B (ju B6 598 66 0) t g := by
  obtain ⟨a1, a2, a3, a4⟩ := a
  obtain ⟨b1, b2, b3, b4⟩ := b
  have j : ∀ (c : Nat) (i : Int), c ≠ 598 → ju B6 598 66 0 c i = B6 c i := fun c i hc => ju_c _ _ hc
  have x0 := a2 0 (by decide) (by decide)
  have x1 := a2 1 (by decide) (by decide)
  refine ⟨⟨?_, ?_, ?_⟩, fun s s0 s1 => ?_, ?_, Or.inl ⟨?_, a1.2.2.2.2.2.1⟩⟩
  · rw [a1.2.1, j 628 g (by decide), b1.2.1]; exact e.1.1
  · rw [a1.2.2.1, j 629 g (by decide), b1.2.2.1]; exact e.1.2
  · rw [a1.2.2.2.2.1, j 640 g (by decide), b1.2.2.2.2.2.2.2]
  · have z := a2 s s0 s1
    have y := b2 (2 * g + s) (by omega) (by omega)
    refine ⟨⟨?_, ?_, ?_⟩, ⟨?_, ?_⟩, ?_, ?_⟩
    · rw [j 630 _ (by decide)]
      rcases (show s = 0 ∨ s = 1 by omega) with rfl | rfl
      · rw [x0.1.1, Int.add_zero, b1.2.2.2.1]; exact e.2.1.1
      · rw [x1.1.1, b1.2.2.2.2.1]; exact e.2.1.2
    · rw [j 631 _ (by decide)]
      rcases (show s = 0 ∨ s = 1 by omega) with rfl | rfl
      · rw [x0.1.2, Int.add_zero, b1.2.2.2.2.2.1]; exact e.2.2.1
      · rw [x1.1.2, b1.2.2.2.2.2.2.1]; exact e.2.2.2
    · rw [j 635 _ (by decide), z.2.2.2.1, y.2.2.2.1]
    · rw [j 636 _ (by decide), z.2.2.2.2.1, y.2.2.2.2.1]
    · rw [j 637 _ (by decide), z.2.2.2.2.2, y.2.2.2.2.2]
    · rw [j 632 _ (by decide), z.2.2.1, y.1]
    · unfold l6x
      rw [j 632 _ (by decide), z.2.1, y.1, if_pos rfl]
  · rw [a1.2.2.2.2.2.2, j 634 _ (by decide), (b2 (2 * g + 1) (by omega) (by omega)).2.2.1]
  · rw [j 640 g (by decide)]; exact b1.2.2.2.2.2.2.2
theorem O7.t {R B S : jm} {g : Int} (h : O7 B S g) (e : O7 R B g) : O7 R S g := ⟨fun b j hj hb => (h.1 b j hj hb).trans (e.1 b j hj hb), fun b j hj hb => (h.2 b j hj hb).trans (e.2 b j hj hb)⟩
theorem O7.b {E6 B6 : jm} {g : Int} (b : BF6 E6 B6 g) (o : OBF E6 B6) : O7 E6 (ju B6 598 66 0) g := by
  refine ⟨fun c j hj hc => ?_, fun c j hj hc => ?_⟩
  · rw [ju_c _ _ (by omega)]
    rcases (show c = 627 ∨ c = 628 ∨ c = 629 ∨ c = 640 ∨ (c = 638 ∨ c = 639 ∨ c = 641 ∨ c = 642) by omega) with rfl | rfl | rfl | rfl | hc
    · exact (b.2.2.1 j hj).1
    · exact (b.2.2.1 j hj).2.1
    · exact (b.2.2.1 j hj).2.2.1
    · exact (b.2.2.1 j hj).2.2.2
    · exact o c j (by omega) (by omega) (by omega) (by omega) (by omega) (by omega) (by omega) (by omega) (by omega) (by omega) (by omega) (by omega)
  · rw [ju_c _ _ (by omega)]
    have q := b.2.2.2 j hj
    rcases (show c = 630 ∨ c = 631 ∨ c = 632 ∨ c = 633 ∨ c = 634 ∨ c = 635 ∨ c = 636 ∨ c = 637 by omega) with rfl | rfl | rfl | rfl | rfl | rfl | rfl | rfl
    · exact q.1
    · exact q.2.1
    · exact q.2.2.1
    · exact q.2.2.2.1
    · exact q.2.2.2.2.1
    · exact q.2.2.2.2.2.1
    · exact q.2.2.2.2.2.2.1
    · exact q.2.2.2.2.2.2.2
theorem O7.g {E6 B6 : jm} {g : Int} (b : FG6 E6 B6 g (2 * g + 2)) (o : OFG E6 B6) : O7 E6 B6 g := ⟨fun c j hj hc => o c j (by omega) (by omega) (by omega) (by omega) (by omega) (by omega), fun c j hj hc => b.2 c j (by omega)⟩
theorem O7.r (M : jm) (g : Int) : O7 M M g := ⟨fun _ _ _ _ => rfl, fun _ _ _ _ => rfl⟩
theorem xcv5_z : xcv_5 85 = 0 ∧ xcv_5 95 = 0 ∧ xcv_5 0 = 1 := by decide +kernel
theorem xcv5_r {i : Int} (h0 : 0 ≤ i) (h1 : i < 100) : 0 ≤ xcv_5 i ∧ xcv_5 i ≤ 10 := xcr_5 h0 h1
noncomputable def HIY (P : Prop) : Prop := P
theorem HIY.i {P : Prop} (h : P) : HIY P := h
theorem HIY.e {P : Prop} (h : HIY P) : P := h
end
