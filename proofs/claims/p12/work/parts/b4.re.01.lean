section
/-- a flow of a stream has taken a packet in -/
theorem fin6 {B B6 D S : jm} {t : Nat} {g z b e w u N x : Int} (h : FP B B6 t g) (hz : z = 0 ∨ z = 1) (hs : z = 0 ∨ B6 634 (2 * g) = 1) (n6 : B6 629 g = 6) (h01 : 0 ≤ B6 632 (2 * g + z) ∧ B6 632 (2 * g + z) ≤ 1) (h12 : 0 ≤ B6 634 (2 * g + 1) ∧ B6 634 (2 * g + 1) ≤ 1) (hD : D = tiM (tsM B t z b e w) t z u N) (hS : CT6 (K6 B6 g 6 u b) S x g (2 * g + z)) (he : ctE (K6 B6 g 6 u b) x = e) (hw : tw (rf (K6 B6 g 6 u b) x) (K6 B6 g 6 u b 604 (K6 B6 g 6 u b 598 65) + 14) = w) (hN : B6 600 x = N) (hb : 1 ≤ b ∧ b ≤ 10) : FL D S t g ∧ D t 0 = B t 0 ∧ S 627 g = B6 627 g ∧ fr7 B D t ∧ O7 B6 S g := by
  obtain ⟨c1, c2, c3, c4, c5, c6, c7⟩ := tsM_f (M := B) (t := t) (z := z) (b := b) (e := e) (w := w)
  obtain ⟨d1, d2, d3, d4, d5, d6, d7⟩ := tiM_f (M := tsM B t z b e w) (t := t) (z := z) (u := u) (N := N)
  obtain ⟨k1, k2, k3⟩ := k6_f (B := B6) (g := g) (n := 6) (t := u) (st := b)
  obtain ⟨s1, s2, s3, s4, s5, s6, s7⟩ := ct6_f hS (by rw [k3 629 g (by omega)]; exact n6)
  have K : ∀ (a : Nat) (j : Int), a ≠ 638 → a ≠ 639 → K6 B6 g 6 u b a j = B6 a j := fun a j h1 h2 => k3 a j (Or.inl ⟨h1, h2⟩)
  rw [he] at s6
  rw [hw] at s5
  simp only [K 636 _ (by decide) (by decide), K 637 _ (by decide) (by decide), K 634 _ (by decide) (by decide), K 632 _ (by decide) (by decide), K 633 _ (by decide) (by decide), K 635 _ (by decide) (by decide), K 600 _ (by decide) (by decide), hN] at s1 s2 s3 s4 s5 s6
  rw [← hD] at d1 d2 d3 d4 d5 d6 d7
  obtain ⟨f1, f2, f3, f4⟩ := h
  have fz := f2 z (by omega) (by omega)
  have S7 : ∀ (a : Nat) (j : Int), (a < 632 ∨ 637 < a) → a ≠ 638 → a ≠ 639 → S a j = B6 a j := fun a j h0 h1 h2 => (s7 a j h0).trans (K a j h1 h2)
  have cond : (B (t + 4) z = 0 ∨ 0 < j_w (e - B (t + 3) z)) ↔ ¬ (B6 632 (2 * g + z) ≠ 0 ∧ j_w (e - B6 633 (2 * g + z)) ≤ 0) := by
    rw [fz.2.2.1, fz.2.2.2]
    unfold l6x
    by_cases v : B6 632 (2 * g + z) = 0
    · exact ⟨fun _ u => u.1 v, fun _ => Or.inl v⟩
    · rw [if_neg v]
      omega
  refine ⟨⟨⟨?_, ?_, ?_, ?_, ?_⟩, fun s q0 q1 => ⟨⟨?_, ?_, ?_⟩, ⟨?_, ?_⟩, ?_, ?_⟩, ⟨?_, ?_⟩, ?_, ?_⟩, ?_, ?_, ?_, ?_⟩
  · rw [d1 1 (by decide) (by decide), c1 1 (by decide), S7 628 g (by decide) (by decide) (by decide)]; exact f1.1
  · rw [d1 2 (by decide) (by decide), c1 2 (by decide), S7 629 g (by decide) (by decide) (by decide)]; exact f1.2.1
  · rw [d1 5 (by decide) (by decide), c2, s7 638 g (by decide), k1]
  · rw [d2, c1 2 (by decide), c2, s7 639 g (by decide), k2, f1.2.1, n6]
  · rw [d1 13 (by decide) (by decide), c1 13 (by decide), S7 640 g (by decide) (by decide) (by decide)]; exact f1.2.2
  · rw [(d4 s).1, (c3 s).1, S7 630 _ (by decide) (by decide) (by decide)]; exact (f2 s q0 q1).1.1
  · rw [(d4 s).2.1, (c3 s).2.1, S7 631 _ (by decide) (by decide) (by decide)]; exact (f2 s q0 q1).1.2.1
  · rw [(d4 s).2.2.2.2, c4, s5]
    by_cases v : s = z
    · rw [if_pos v, if_pos (by omega)]
    · rw [if_neg v, if_neg (by omega)]; exact (f2 s q0 q1).1.2.2
  · rw [d5, s1, (c3 z).2.2.1, (c3 s).2.2.1, fz.2.1.1]
    by_cases v : s = z
    · rw [if_pos v, if_pos (by omega)]
    · rw [if_neg v, if_neg (by omega)]; exact (f2 s q0 q1).2.1.1
  · rw [d6, s2, (c3 z).2.2.2, (c3 s).2.2.2, fz.2.1.2]
    by_cases v : s = z
    · rw [if_pos v, if_pos (by omega)]
    · rw [if_neg v, if_neg (by omega)]; exact (f2 s q0 q1).2.1.2
  · rw [(d4 s).2.2.2.1, c5, s4]
    by_cases v : s = z
    · rw [if_pos (show 2 * g + s = 2 * g + z by omega)]
      by_cases cc : B (t + 4) z = 0 ∨ 0 < j_w (e - B (t + 3) z)
      · rw [if_pos ⟨v, cc⟩]
      · rw [if_neg (fun u => cc u.2), v, fz.2.2.1]
        have := fz.2.2.1
        omega
    · rw [if_neg (fun u => v u.1), if_neg (by omega)]; exact (f2 s q0 q1).2.2.1
  · rw [(d4 s).2.2.1, c6]
    unfold l6x
    rw [s4, s6]
    by_cases v : s = z
    · rw [if_pos (show 2 * g + s = 2 * g + z by omega), if_neg (show ¬ ((1 : Int) = 0) by decide)]
      by_cases cc : B (t + 4) z = 0 ∨ 0 < j_w (e - B (t + 3) z)
      · rw [if_pos ⟨v, cc⟩, if_pos ⟨by omega, cond.1 cc⟩]
      · rw [if_neg (fun u => cc u.2), if_neg (fun u => cc (cond.2 u.2)), v, fz.2.2.2]
        unfold l6x
        rw [if_neg (fun u => cc (Or.inl (by rw [fz.2.2.1]; exact u)))]
    · have ne : ¬ (2 * g + s = 2 * g + z) := by omega
      rw [if_neg (fun u => v u.1), if_neg ne, if_neg (show ¬ (2 * g + s = 2 * g + z ∧ ¬ (B6 632 (2 * g + z) ≠ 0 ∧ j_w (e - B6 633 (2 * g + z)) ≤ 0)) from fun u => ne u.1)]
      exact (f2 s q0 q1).2.2.2
  · rw [d3, c1 12 (by decide), s3, f3]
    rcases hz with v | v
    · rw [if_neg (show ¬ (2 * g + 1 = 2 * g + z) by omega)]
      by_cases y : B6 634 (2 * g + 1) = 0
      · rw [if_neg (by omega), y]
      · rw [if_pos (by omega)]; omega
    · rw [if_pos (by omega), if_pos (by omega)]
  · rw [s3]
    rcases hz with v | v
    · rw [if_pos (by omega)]
    · rw [if_neg (by omega)]; omega
  · rw [S7 640 g (by decide) (by decide) (by decide), S7 641 g (by decide) (by decide) (by decide), S7 642 g (by decide) (by decide) (by decide), S7 628 g (by decide) (by decide) (by decide), S7 629 g (by decide) (by decide) (by decide), d1 14 (by decide) (by decide), d1 15 (by decide) (by decide), c1 14 (by decide), c1 15 (by decide)]
    exact f4
  · rw [S7 629 g (by decide) (by decide) (by decide), s7 638 g (by decide), k1, n6]
    unfold stOK
    omega
  · rw [d1 0 (by decide) (by decide), c1 0 (by decide)]
  · exact S7 627 g (by decide) (by decide) (by decide)
  · exact fun b k hb => (d7 b k hb).trans (c7 b k hb)
  · refine ⟨fun b j hj hb => ?_, fun b j hj hb => ?_⟩
    · rw [s7 b j (by omega), k3 b j (Or.inr hj)]
    · rcases (show b = 630 ∨ b = 631 ∨ b = 632 ∨ b = 633 ∨ b = 634 ∨ b = 635 ∨ b = 636 ∨ b = 637 by omega) with rfl | rfl | rfl | rfl | rfl | rfl | rfl | rfl
      · exact S7 630 j (by decide) (by decide) (by decide)
      · exact S7 631 j (by decide) (by decide) (by decide)
      · rw [s4, if_neg (by omega)]
      · rw [s6, if_neg (by omega)]
      · rw [s3, if_neg (by omega)]
      · rw [s5, if_neg (by omega)]
      · rw [s1, if_neg (by omega)]
      · rw [s2, if_neg (by omega)]
/-- a flow of another sort has taken a packet in -/
theorem fin1 {B B6 D S : jm} {t : Nat} {g z b u N x n : Int} (h : FP B B6 t g) (hz : z = 0 ∨ z = 1) (hs : z = 0 ∨ B6 634 (2 * g) = 1) (n6 : B6 629 g = n) (hn : n = 1 ∨ n = 17) (h12 : 0 ≤ B6 634 (2 * g + 1) ∧ B6 634 (2 * g + 1) ≤ 1) (hD : D = tiM (if B t 2 = 17 ∧ z = 1 then ju B t 5 1 else B) t z u N) (hb : b = (if B t 2 = 17 ∧ z = 1 then 1 else B t 5)) (hS : CT6 (K6 B6 g n u b) S x g (2 * g + z)) (hN : B6 600 x = N) (ok : stOK n b) : FL D S t g ∧ D t 0 = B t 0 ∧ S 627 g = B6 627 g ∧ fr7 B D t ∧ O7 B6 S g := by
  have e0 : ∃ B1 : jm, B1 = (if B t 2 = 17 ∧ z = 1 then ju B t 5 1 else B) := ⟨_, rfl⟩
  obtain ⟨B1, hB⟩ := e0
  have c1 : ∀ k : Int, k ≠ 5 → B1 t k = B t k := fun k hk => by
    rw [hB]
    split
    · exact ju_i _ _ hk
    · rfl
  have c2 : B1 t 5 = b := by
    rw [hB, hb]
    split
    · exact ju_same _ _ _ _
    · rfl
  have c3 : ∀ (a : Nat) (k : Int), a ≠ t → B1 a k = B a k := fun a k ha => by
    rw [hB]
    split
    · exact ju_c _ _ ha
    · rfl
  rw [← hB] at hD
  obtain ⟨d1, d2, d3, d4, d5, d6, d7⟩ := tiM_f (M := B1) (t := t) (z := z) (u := u) (N := N)
  obtain ⟨k1, k2, k3⟩ := k6_f (B := B6) (g := g) (n := n) (t := u) (st := b)
  have K : ∀ (a : Nat) (j : Int), a ≠ 638 → a ≠ 639 → K6 B6 g n u b a j = B6 a j := fun a j h1 h2 => k3 a j (Or.inl ⟨h1, h2⟩)
  have hS0 : S = ct0 (K6 B6 g n u b) x (2 * g + z) := by
    rcases hS with q | q | q
    · exact q.2
    · have := q.1
      rw [K 629 g (by decide) (by decide), n6] at this
      omega
    · have := q.1
      rw [K 629 g (by decide) (by decide), n6] at this
      omega
  obtain ⟨s1, s2, s3, s7⟩ := ct0_f (K := K6 B6 g n u b) (x := x) (s := 2 * g + z)
  rw [← hS0] at s1 s2 s3 s7
  simp only [K 636 _ (by decide) (by decide), K 637 _ (by decide) (by decide), K 634 _ (by decide) (by decide), K 600 _ (by decide) (by decide), hN] at s1 s2 s3
  rw [← hD] at d1 d2 d3 d4 d5 d6 d7
  obtain ⟨f1, f2, f3, f4⟩ := h
  have fz := f2 z (by omega) (by omega)
  have S7 : ∀ (a : Nat) (j : Int), (a < 634 ∨ a = 635 ∨ 637 < a) → a ≠ 638 → a ≠ 639 → S a j = B6 a j := fun a j h0 h1 h2 => (s7 a j h0).trans (K a j h1 h2)
  refine ⟨⟨⟨?_, ?_, ?_, ?_, ?_⟩, fun s q0 q1 => ⟨⟨?_, ?_, ?_⟩, ⟨?_, ?_⟩, ?_, ?_⟩, ⟨?_, ?_⟩, ?_, ?_⟩, ?_, ?_, ?_, ?_⟩
  · rw [d1 1 (by decide) (by decide), c1 1 (by decide), S7 628 g (by decide) (by decide) (by decide)]; exact f1.1
  · rw [d1 2 (by decide) (by decide), c1 2 (by decide), S7 629 g (by decide) (by decide) (by decide)]; exact f1.2.1
  · rw [d1 5 (by decide) (by decide), c2, s7 638 g (by decide), k1]
  · rw [d2, c1 2 (by decide), c2, s7 639 g (by decide), k2, f1.2.1, n6]
  · rw [d1 13 (by decide) (by decide), c1 13 (by decide), S7 640 g (by decide) (by decide) (by decide)]; exact f1.2.2
  · rw [(d4 s).1, c3 _ s (by omega), S7 630 _ (by decide) (by decide) (by decide)]; exact (f2 s q0 q1).1.1
  · rw [(d4 s).2.1, c3 _ s (by omega), S7 631 _ (by decide) (by decide) (by decide)]; exact (f2 s q0 q1).1.2.1
  · rw [(d4 s).2.2.2.2, c3 _ s (by omega), S7 635 _ (by decide) (by decide) (by decide)]; exact (f2 s q0 q1).1.2.2
  · rw [d5, s1, c3 _ z (by omega), c3 _ s (by omega), fz.2.1.1]
    by_cases v : s = z
    · rw [if_pos v, if_pos (by omega)]
    · rw [if_neg v, if_neg (by omega)]; exact (f2 s q0 q1).2.1.1
  · rw [d6, s2, c3 _ z (by omega), c3 _ s (by omega), fz.2.1.2]
    by_cases v : s = z
    · rw [if_pos v, if_pos (by omega)]
    · rw [if_neg v, if_neg (by omega)]; exact (f2 s q0 q1).2.1.2
  · rw [(d4 s).2.2.2.1, c3 _ s (by omega), S7 632 _ (by decide) (by decide) (by decide)]; exact (f2 s q0 q1).2.2.1
  · rw [(d4 s).2.2.1, c3 _ s (by omega), l6x_e (S7 632 _ (by decide) (by decide) (by decide)) (S7 633 _ (by decide) (by decide) (by decide))]; exact (f2 s q0 q1).2.2.2
  · rw [d3, c1 12 (by decide), s3, f3]
    rcases hz with v | v
    · rw [if_neg (show ¬ (2 * g + 1 = 2 * g + z) by omega)]
      by_cases y : B6 634 (2 * g + 1) = 0
      · rw [if_neg (by omega), y]
      · rw [if_pos (by omega)]; omega
    · rw [if_pos (by omega), if_pos (by omega)]
  · rw [s3]
    rcases hz with v | v
    · rw [if_pos (by omega)]
    · rw [if_neg (by omega)]; omega
  · rw [S7 640 g (by decide) (by decide) (by decide), S7 641 g (by decide) (by decide) (by decide), S7 642 g (by decide) (by decide) (by decide), S7 628 g (by decide) (by decide) (by decide), S7 629 g (by decide) (by decide) (by decide), d1 14 (by decide) (by decide), d1 15 (by decide) (by decide), c1 14 (by decide), c1 15 (by decide)]
    exact f4
  · rw [S7 629 g (by decide) (by decide) (by decide), s7 638 g (by decide), k1, n6]
    exact ok
  · rw [d1 0 (by decide) (by decide), c1 0 (by decide)]
  · exact S7 627 g (by decide) (by decide) (by decide)
  · exact fun b k hb => (d7 b k hb).trans (c3 b k (by omega))
  · refine ⟨fun b j hj hb => ?_, fun b j hj hb => ?_⟩
    · rw [s7 b j (by omega), k3 b j (Or.inr hj)]
    · rcases (show b = 630 ∨ b = 631 ∨ b = 632 ∨ b = 633 ∨ b = 634 ∨ b = 635 ∨ b = 636 ∨ b = 637 by omega) with rfl | rfl | rfl | rfl | rfl | rfl | rfl | rfl
      · exact S7 630 j (by decide) (by decide) (by decide)
      · exact S7 631 j (by decide) (by decide) (by decide)
      · exact S7 632 j (by decide) (by decide) (by decide)
      · exact S7 633 j (by decide) (by decide) (by decide)
      · rw [s3, if_neg (by omega)]
      · exact S7 635 j (by decide) (by decide) (by decide)
      · rw [s1, if_neg (by omega)]
      · rw [s2, if_neg (by omega)]
end
section
/-! ===== both sides answer alike: track, the whole ===== -/
theorem scf_r (x : Int) : 0 ≤ scf x ∧ scf x ≤ 5 := by
  unfold scf
  (repeat' split) <;> omega
theorem nxk_r {k : Int} (h : 7 ≤ k ∧ k ≤ 9) : (k = 7 ∧ nxk k = 1) ∨ (k = 8 ∧ nxk k = 6) ∨ (k = 9 ∧ nxk k = 17) := by
  rcases (show k = 7 ∨ k = 8 ∨ k = 9 by omega) with rfl | rfl | rfl
  · exact Or.inl ⟨rfl, rfl⟩
  · exact Or.inr (Or.inl ⟨rfl, rfl⟩)
  · exact Or.inr (Or.inr ⟨rfl, rfl⟩)
end
