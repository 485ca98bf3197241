section
theorem tsM_f {M : jm} {t : Nat} {z b e w : Int} : (∀ k : Int, k ≠ 5 → tsM M t z b e w t k = M t k) ∧ tsM M t z b e w t 5 = b ∧ (∀ k : Int, tsM M t z b e w (t + 1) k = M (t + 1) k ∧ tsM M t z b e w (t + 2) k = M (t + 2) k ∧ tsM M t z b e w (t + 6) k = M (t + 6) k ∧ tsM M t z b e w (t + 7) k = M (t + 7) k) ∧ (∀ k : Int, tsM M t z b e w (t + 5) k = if k = z then w else M (t + 5) k) ∧ (∀ k : Int, tsM M t z b e w (t + 4) k = if k = z ∧ (M (t + 4) z = 0 ∨ 0 < j_w (e - M (t + 3) z)) then 1 else M (t + 4) k) ∧ (∀ k : Int, tsM M t z b e w (t + 3) k = if k = z ∧ (M (t + 4) z = 0 ∨ 0 < j_w (e - M (t + 3) z)) then e else M (t + 3) k) ∧ fr7 M (tsM M t z b e w) t := by
  by_cases c : M (t + 4) z = 0 ∨ 0 < j_w (e - M (t + 3) z)
  · rw [tsM_p c]
    refine ⟨fun k hk => ?_, ?_, fun k => ?_, fun k => ?_, fun k => ?_, fun k => ?_, ?_⟩
    · simp [ju, hk]
    · simp [ju]
    · simp [ju]
    · simp [ju]
    · simp [ju, c]
    · simp [ju, c]
    · exact fr7.u (fr7.u (fr7.u (fr7.u (fun _ _ _ => rfl) (by omega)) (by omega)) (by omega)) (by omega)
  · rw [tsM_n c]
    refine ⟨fun k hk => ?_, ?_, fun k => ?_, fun k => ?_, fun k => ?_, fun k => ?_, ?_⟩
    · simp [ju, hk]
    · simp [ju]
    · simp [ju]
    · simp [ju]
    · simp [ju, c]
    · simp [ju, c]
    · exact fr7.u (fr7.u (fun _ _ _ => rfl) (by omega)) (by omega)
theorem tiM_f {M : jm} {t : Nat} {z u N : Int} : (∀ k : Int, k ≠ 6 → k ≠ 12 → tiM M t z u N t k = M t k) ∧ tiM M t z u N t 6 = u + lvf (M t 2) (M t 5) ∧ tiM M t z u N t 12 = (if M t 12 ≠ 0 ∨ z = 1 then 1 else 0) ∧ (∀ k : Int, tiM M t z u N (t + 1) k = M (t + 1) k ∧ tiM M t z u N (t + 2) k = M (t + 2) k ∧ tiM M t z u N (t + 3) k = M (t + 3) k ∧ tiM M t z u N (t + 4) k = M (t + 4) k ∧ tiM M t z u N (t + 5) k = M (t + 5) k) ∧ (∀ k : Int, tiM M t z u N (t + 6) k = if k = z then jl_w (M (t + 6) z + 1) else M (t + 6) k) ∧ (∀ k : Int, tiM M t z u N (t + 7) k = if k = z then jl_w (M (t + 7) z + N) else M (t + 7) k) ∧ fr7 M (tiM M t z u N) t := by
  refine ⟨fun k h6 h12 => ?_, ?_, ?_, fun k => ?_, fun k => ?_, fun k => ?_, ?_⟩
  · simp [tiM, ju, h6, h12]
  · simp [tiM, ju]
  · simp [tiM, ju]
  · simp [tiM, ju]
  · simp [tiM, ju]
  · simp [tiM, ju]
  · exact fr7.u (fr7.u (fr7.u (fr7.u (fun _ _ _ => rfl) (by omega)) (by omega)) (by omega)) (by omega)
theorem ct6_f {K S : jm} {x g s : Int} (h : CT6 K S x g s) (n6 : K 629 g = 6) : (∀ j : Int, S 636 j = if j = s then jl_w (K 636 s + 1) else K 636 j) ∧ (∀ j : Int, S 637 j = if j = s then jl_w (K 637 s + K 600 x) else K 637 j) ∧ (∀ j : Int, S 634 j = if j = s then 1 else K 634 j) ∧ (∀ j : Int, S 632 j = if j = s then 1 else K 632 j) ∧ (∀ j : Int, S 635 j = if j = s then tw (rf K x) (K 604 (K 598 65) + 14) else K 635 j) ∧ (∀ j : Int, S 633 j = if j = s ∧ ¬ (K 632 s ≠ 0 ∧ j_w (ctE K x - K 633 s) ≤ 0) then ctE K x else K 633 j) ∧ ∀ (a : Nat) (j : Int), (a < 632 ∨ 637 < a) → S a j = K a j := by
  rcases h with h | ⟨-, c, h⟩ | ⟨-, c, h⟩
  · exact absurd n6 h.1
  · rw [h]
    refine ⟨fun j => ?_, fun j => ?_, fun j => ?_, fun j => ?_, fun j => ?_, fun j => ?_, fun a j ha => ?_⟩
    · simp [ct0, ju]
    · simp [ct0, ju]
    · simp [ct0, ju]
    · simp [ct0, ju]
    · simp [ct0, ju]
    · rw [if_neg (fun u => u.2 c)]
      simp [ct0, ju]
    · unfold ct0
      rw [ju_c _ _ (by omega), ju_c _ _ (by omega), ju_c _ _ (by omega), ju_c _ _ (by omega), ju_c _ _ (by omega)]
  · rw [h]
    refine ⟨fun j => ?_, fun j => ?_, fun j => ?_, fun j => ?_, fun j => ?_, fun j => ?_, fun a j ha => ?_⟩
    · simp [ct0, ju]
    · simp [ct0, ju]
    · simp [ct0, ju]
    · simp [ct0, ju]
    · simp [ct0, ju]
    · by_cases e : j = s
      · rw [if_pos ⟨e, c⟩]
        simp [ct0, ju, e]
      · rw [if_neg (fun u => e u.1)]
        simp [ct0, ju, e]
    · unfold ct0
      rw [ju_c _ _ (by omega), ju_c _ _ (by omega), ju_c _ _ (by omega), ju_c _ _ (by omega), ju_c _ _ (by omega), ju_c _ _ (by omega)]
theorem ct0_f {K : jm} {x s : Int} : (∀ j : Int, ct0 K x s 636 j = if j = s then jl_w (K 636 s + 1) else K 636 j) ∧ (∀ j : Int, ct0 K x s 637 j = if j = s then jl_w (K 637 s + K 600 x) else K 637 j) ∧ (∀ j : Int, ct0 K x s 634 j = if j = s then 1 else K 634 j) ∧ ∀ (a : Nat) (j : Int), (a < 634 ∨ a = 635 ∨ 637 < a) → ct0 K x s a j = K a j := by
  refine ⟨fun j => ?_, fun j => ?_, fun j => ?_, fun a j ha => ?_⟩
  · simp [ct0, ju]
  · simp [ct0, ju]
  · simp [ct0, ju]
  · unfold ct0
    rw [ju_c _ _ (by omega), ju_c _ _ (by omega), ju_c _ _ (by omega)]
theorem k6_f {B : jm} {g n t st : Int} : K6 B g n t st 638 g = st ∧ K6 B g n t st 639 g = t + lvf n st ∧ (∀ (a : Nat) (j : Int), (a ≠ 638 ∧ a ≠ 639) ∨ j ≠ g → K6 B g n t st a j = B a j) := by
  refine ⟨?_, ?_, fun a j h => ?_⟩
  · simp [K6, ju]
  · simp [K6, ju]
  · unfold K6
    rw [ju_ne _ _ (by omega), ju_ne _ _ (by omega)]
/-- a flow of a stream has taken a packet in -/
theorem fin6 {B B6 D S : jm} {t : Nat} {g z b e w u N x : Int} (h : FP B B6 t g) (hz : z = 0 ∨ z = 1) (hs : z = 0 ∨ B6 634 (2 * g) = 1) (n6 : B6 629 g = 6) (h01 : 0 ≤ B6 632 (2 * g + z) ∧ B6 632 (2 * g + z) ≤ 1) (h12 : 0 ≤ B6 634 (2 * g + 1) ∧ B6 634 (2 * g + 1) ≤ 1) (hD : D = tiM (tsM B t z b e w) t z u N) (hS : CT6 (K6 B6 g 6 u b) S x g (2 * g + z)) (he : ctE (K6 B6 g 6 u b) x = e) (hw : tw (rf (K6 B6 g 6 u b) x) (K6 B6 g 6 u b 604 (K6 B6 g 6 u b 598 65) + 14) = w) (hN : B6 600 x = N) (hb : 1 ≤ b ∧ b ≤ 10) : FL D S t g ∧ D t 0 = B t 0 ∧ S 627 g = B6 627 g ∧ fr7 B D t ∧ O7 B6 S g := by
  obtain ⟨c1, c2, c3, c4, c5, c6, c7⟩ := tsM_f (M := B) (t := t) (z := z) (b := b) (e := e) (w := w)
  obtain ⟨d1, d2, d3, d4, d5, d6, d7⟩ := tiM_f (M := tsM B t z b e w) (t := t) (z := z) (u := u) (N := N)
  obtain ⟨k1, k2, k3⟩ := k6_f (B := B6) (g := g) (n := 6) (t := u) (st := b)
  obtain ⟨s1, s2, s3, s4, s5, s6, s7⟩ := ct6_f hS (by rw [k3 629 g (by omega)]; exact n6)
  have K : ∀ (a : Nat) (j : Int), a ≠ 638 → a ≠ 639 → K6 B6 g 6 u b a j = B6 a j := fun a j h1 h2 => k3 a j (Or.inl ⟨h1, h2⟩)
  rw [he] at s6
  rw [hw] at s5
  simp only [K 636 _ (by decide) (by decide), K 637 _ (by decide) (by decide), K 634 _ (by decide) (by decide), K 632 _ (by decide) (by decide), K 633 _ (by decide) (by decide), K 635 _ (by decide) (by decide), K 600 _ (by decide) (by decide), hN] at s1 s2 s3 s4 s5 s6
  rw [← hD] at d1 d2 d3 d4 d5 d6 d7
  obtain ⟨f1, f2, f3, f4⟩ := h
  have fz := f2 z (by omega) (by omega)
  have S7 : ∀ (a : Nat) (j : Int), (a < 632 ∨ 637 < a) → a ≠ 638 → a ≠ 639 → S a j = B6 a j := fun a j h0 h1 h2 => (s7 a j h0).trans (K a j h1 h2)
  have cond : (B (t + 4) z = 0 ∨ 0 < j_w (e - B (t + 3) z)) ↔ ¬ (B6 632 (2 * g + z) ≠ 0 ∧ j_w (e - B6 633 (2 * g + z)) ≤ 0) := by
    rw [fz.2.2.1, fz.2.2.2]
    unfold l6x
    by_cases v : B6 632 (2 * g + z) = 0
    · exact ⟨fun _ u => u.1 v, fun _ => Or.inl v⟩
    · rw [if_neg v]
      omega
  refine ⟨⟨⟨?_, ?_, ?_, ?_, ?_⟩, fun s q0 q1 => ⟨⟨?_, ?_, ?_⟩, ⟨?_, ?_⟩, ?_, ?_⟩, ⟨?_, ?_⟩, ?_, ?_⟩, ?_, ?_, ?_, ?_⟩
  · rw [d1 1 (by decide) (by decide), c1 1 (by decide), S7 628 g (by decide) (by decide) (by decide)]; exact f1.1
  · rw [d1 2 (by decide) (by decide), c1 2 (by decide), S7 629 g (by decide) (by decide) (by decide)]; exact f1.2.1
  · rw [d1 5 (by decide) (by decide), c2, s7 638 g (by decide), k1]
  · rw [d2, c1 2 (by decide), c2, s7 639 g (by decide), k2, f1.2.1, n6]
  · rw [d1 13 (by decide) (by decide), c1 13 (by decide), S7 640 g (by decide) (by decide) (by decide)]; exact f1.2.2
  · rw [(d4 s).1, (c3 s).1, S7 630 _ (by decide) (by decide) (by decide)]; exact (f2 s q0 q1).1.1
  · rw [(d4 s).2.1, (c3 s).2.1, S7 631 _ (by decide) (by decide) (by decide)]; exact (f2 s q0 q1).1.2.1
  · rw [(d4 s).2.2.2.2, c4, s5]
    by_cases v : s = z
    · rw [if_pos v, if_pos (by omega)]
    · rw [if_neg v, if_neg (by omega)]; exact (f2 s q0 q1).1.2.2
  · rw [d5, s1, (c3 z).2.2.1, (c3 s).2.2.1, fz.2.1.1]
    by_cases v : s = z
    · rw [if_pos v, if_pos (by omega)]
    · rw [if_neg v, if_neg (by omega)]; exact (f2 s q0 q1).2.1.1
  · rw [d6, s2, (c3 z).2.2.2, (c3 s).2.2.2, fz.2.1.2]
    by_cases v : s = z
    · rw [if_pos v, if_pos (by omega)]
    · rw [if_neg v, if_neg (by omega)]; exact (f2 s q0 q1).2.1.2
  · rw [(d4 s).2.2.2.1, c5, s4]
    by_cases v : s = z
    · rw [if_pos (show 2 * g + s = 2 * g + z by omega)]
      by_cases cc : B (t + 4) z = 0 ∨ 0 < j_w (e - B (t + 3) z)
      · rw [if_pos ⟨v, cc⟩]
      · rw [if_neg (fun u => cc u.2), v, fz.2.2.1]
        have := fz.2.2.1
        omega
    · rw [if_neg (fun u => v u.1), if_neg (by omega)]; exact (f2 s q0 q1).2.2.1
  · rw [(d4 s).2.2.1, c6]
    unfold l6x
    rw [s4, s6]
    by_cases v : s = z
    · rw [if_pos (show 2 * g + s = 2 * g + z by omega), if_neg (show ¬ ((1 : Int) = 0) by decide)]
      by_cases cc : B (t + 4) z = 0 ∨ 0 < j_w (e - B (t + 3) z)
      · rw [if_pos ⟨v, cc⟩, if_pos ⟨by omega, cond.1 cc⟩]
      · rw [if_neg (fun u => cc u.2), if_neg (fun u => cc (cond.2 u.2)), v, fz.2.2.2]
        unfold l6x
        rw [if_neg (fun u => cc (Or.inl (by rw [fz.2.2.1]; exact u)))]
    · have ne : ¬ (2 * g + s = 2 * g + z) := by omega
      rw [if_neg (fun u => v u.1), if_neg ne, if_neg (show ¬ (2 * g + s = 2 * g + z ∧ ¬ (B6 632 (2 * g + z) ≠ 0 ∧ j_w (e - B6 633 (2 * g + z)) ≤ 0)) from fun u => ne u.1)]
      exact (f2 s q0 q1).2.2.2
  · rw [d3, c1 12 (by decide), s3, f3]
    rcases hz with v | v
    · rw [if_neg (show ¬ (2 * g + 1 = 2 * g + z) by omega)]
      by_cases y : B6 634 (2 * g + 1) = 0
      · rw [if_neg (by omega), y]
      · rw [if_pos (by omega)]; omega
    · rw [if_pos (by omega), if_pos (by omega)]
  · rw [s3]
    rcases hz with v | v
    · rw [if_pos (by omega)]
    · rw [if_neg (by omega)]; omega
  · rw [S7 640 g (by decide) (by decide) (by decide), S7 641 g (by decide) (by decide) (by decide), S7 642 g (by decide) (by decide) (by decide), S7 628 g (by decide) (by decide) (by decide), S7 629 g (by decide) (by decide) (by decide), d1 14 (by decide) (by decide), d1 15 (by decide) (by decide), c1 14 (by decide), c1 15 (by decide)]
    exact f4
  · rw [S7 629 g (by decide) (by decide) (by decide), s7 638 g (by decide), k1, n6]
    unfold stOK
    omega
  · rw [d1 0 (by decide) (by decide), c1 0 (by decide)]
  · exact S7 627 g (by decide) (by decide) (by decide)
  · exact fun b k hb => (d7 b k hb).trans (c7 b k hb)
  · refine ⟨fun b j hj hb => ?_, fun b j hj hb => ?_⟩
    · rw [s7 b j (by omega), k3 b j (Or.inr hj)]
    · rcases (show b = 630 ∨ b = 631 ∨ b = 632 ∨ b = 633 ∨ b = 634 ∨ b = 635 ∨ b = 636 ∨ b = 637 by omega) with rfl | rfl | rfl | rfl | rfl | rfl | rfl | rfl
      · exact S7 630 j (by decide) (by decide) (by decide)
      · exact S7 631 j (by decide) (by decide) (by decide)
      · rw [s4, if_neg (by omega)]
      · rw [s6, if_neg (by omega)]
      · rw [s3, if_neg (by omega)]
      · rw [s5, if_neg (by omega)]
      · rw [s1, if_neg (by omega)]
      · rw [s2, if_neg (by omega)]
end
