/-! ===== both sides answer alike: track ===== -/
/-- the reference holds the headers of f; the packet's own header is I -/
def TKC (M : jm) (f : Int → Int) (N C x I : Int) : Prop := HT M f N C ∧ (0 ≤ I ∧ I < C) ∧ M 598 65 = I ∧ rf M x = f ∧ M 600 x = N
theorem TKC.e {E M : jm} {f : Int → Int} {N C x I : Int} (h : TKC E f N C x I) (e : ∀ (b : Nat) (i : Int), 600 ≤ b → b ≤ 605 → M b i = E b i) (e6 : M 598 6 = E 598 6) (e5 : M 598 65 = E 598 65) : TKC M f N C x I := by
  obtain ⟨h1, h2, h3, h4, h5⟩ := h
  refine ⟨⟨by rw [e6]; exact h1.1, fun i i0 i1 => ?_, h1.2.2⟩, h2, by rw [e5]; exact h3, ?_, by rw [e 600 x (by decide) (by decide)]; exact h5⟩
  · rw [e (602 + 1) i (by decide) (by decide), e (602 + 2) i (by decide) (by decide), e (602 + 3) i (by decide) (by decide)]
    exact h1.2.1 i i0 i1
  · rw [← h4]
    exact rf_e (fun i => e 601 i (by decide) (by decide))
theorem tk_v8 {M : jm} {f : Int → Int} {N C I : Int} (ht : HT M f N C) (hi : 0 ≤ I ∧ I < C) (k8 : kA f N C I = 8) : vA f N C I 5 = f (hY f N I + 13) ∧ vA f N C I 2 = nbs f (hY f N I + 4) 4 ∧ vA f N C I 6 = tw f (hY f N I + 14) ∧ hX f N I = 8 := by
  have k := k8
  rw [kA_i hi] at k
  have y0 := ht.y hi
  have b := HT.f ht hi
  rw [k] at b
  have l20 : lst 8 = 20 := rfl
  have hN := ht.2.2.1
  have b13 := ht.2.2.2 (hY f N I + 13) (by omega) (by omega)
  have b14 := ht.2.2.2 (hY f N I + 14) (by omega) (by omega)
  have b15 := ht.2.2.2 (hY f N I + 14 + 1) (by omega) (by omega)
  have r4 := nbs_r4 (f := f) (y := hY f N I + 4) (n := 4) (by decide) (fun i i0 i1 => ht.2.2.2 i (by omega) (by omega))
  rw [vA_k (j := 5) hi k (by decide +kernel), vof_8_5, vA_k (j := 2) hi k (by decide +kernel), vof_8_2, vA_k (j := 6) hi k (by decide +kernel), vof_8_6, nbs_1, nbs_2]
  unfold tw
  omega
theorem tk_v7 {M : jm} {f : Int → Int} {N C I : Int} (ht : HT M f N C) (hi : 0 ≤ I ∧ I < C) (k7 : kA f N C I = 7) : vA f N C I 0 = f (hY f N I) := by
  have k := k7
  rw [kA_i hi] at k
  have y0 := ht.y hi
  have b := HT.f ht hi
  rw [k] at b
  have l8 : lst 7 = 8 := rfl
  have hN := ht.2.2.1
  have b0 := ht.2.2.2 (hY f N I) (by omega) (by omega)
  rw [vA_k (j := 0) hi k (by decide +kernel), vof_7_0, nbs_1, Int.add_zero]
  omega
theorem TKC.v {M : jm} {f : Int → Int} {N C x I : Int} (h : TKC M f N C x I) (k8 : kA f N C I = 8) : clE M x = tsS f N C I ∧ lg6 M x = tsN f N C I ∧ sq6 M x = tsQ f N C I ∧ tw (rf M x) (M 604 (M 598 65) + 14) = vA f N C I 6 := by
  obtain ⟨h1, h2, h3, h4, h5⟩ := h
  have v := tk_v8 h1 h2 k8
  have b := HT.f h1 h2
  have e13 : M 601 (400 * x + (hY f N I + 13)) = f (hY f N I + 13) := congrFun h4 (hY f N I + 13)
  have en : enf f N C I = hY f N I + hZ f N I := by
    unfold enf
    rw [if_pos h2]
  refine ⟨?_, ?_, ?_, ?_⟩
  · unfold clE tsS
    rw [h3, b.2.1, e13, v.1]
  · unfold lg6 tsN
    rw [h3, b.2.1, b.2.2.1, e13, v.1, h5, en]
    omega
  · unfold sq6 tsQ
    rw [h3, b.2.1, h4, v.2.1]
  · rw [h3, b.2.1, h4, v.2.2.1]
/-- a flow before it takes a packet in: all but its state, its end and who has sent -/
def FP (C R : jm) (t : Nat) (f : Int) : Prop := (C t 1 = R 628 f ∧ C t 2 = R 629 f ∧ C t 13 = R 640 f) ∧ (∀ s : Int, 0 ≤ s → s < 2 → (C (t + 1) s = R 630 (2 * f + s) ∧ C (t + 2) s = R 631 (2 * f + s) ∧ C (t + 5) s = R 635 (2 * f + s)) ∧ (C (t + 6) s = R 636 (2 * f + s) ∧ C (t + 7) s = R 637 (2 * f + s)) ∧ C (t + 4) s = R 632 (2 * f + s) ∧ C (t + 3) s = l6x R (2 * f + s)) ∧ C t 12 = R 634 (2 * f + 1) ∧ ((R 640 f = -1 ∧ C t 15 = -1) ∨ (R 640 f ≠ -1 ∧ C t 14 = R 641 f ∧ C t 15 = R 642 f ∧ R 628 f = 0 ∧ R 629 f ≠ 1))
theorem FL.p {C R : jm} {t : Nat} {f : Int} (h : FL C R t f) : FP C R t f := ⟨⟨h.1.1, h.1.2.1, h.1.2.2.2.2⟩, h.2.1, h.2.2.1.1, h.2.2.2.1⟩
theorem tsM_f {M : jm} {t : Nat} {z b e w : Int} : (∀ k : Int, k ≠ 5 → tsM M t z b e w t k = M t k) ∧ tsM M t z b e w t 5 = b ∧ (∀ k : Int, tsM M t z b e w (t + 1) k = M (t + 1) k ∧ tsM M t z b e w (t + 2) k = M (t + 2) k ∧ tsM M t z b e w (t + 6) k = M (t + 6) k ∧ tsM M t z b e w (t + 7) k = M (t + 7) k) ∧ (∀ k : Int, tsM M t z b e w (t + 5) k = if k = z then w else M (t + 5) k) ∧ (∀ k : Int, tsM M t z b e w (t + 4) k = if k = z ∧ (M (t + 4) z = 0 ∨ 0 < j_w (e - M (t + 3) z)) then 1 else M (t + 4) k) ∧ (∀ k : Int, tsM M t z b e w (t + 3) k = if k = z ∧ (M (t + 4) z = 0 ∨ 0 < j_w (e - M (t + 3) z)) then e else M (t + 3) k) ∧ fr7 M (tsM M t z b e w) t := by
  by_cases c : M (t + 4) z = 0 ∨ 0 < j_w (e - M (t + 3) z)
  · rw [tsM_p c]
    refine ⟨fun k hk => ?_, ?_, fun k => ?_, fun k => ?_, fun k => ?_, fun k => ?_, ?_⟩
    · simp [ju, hk]
    · simp [ju]
    · simp [ju]
    · simp [ju]
    · simp [ju, c]
    · simp [ju, c]
    · exact fr7.u (fr7.u (fr7.u (fr7.u (fun _ _ _ => rfl) (by omega)) (by omega)) (by omega)) (by omega)
  · rw [tsM_n c]
    refine ⟨fun k hk => ?_, ?_, fun k => ?_, fun k => ?_, fun k => ?_, fun k => ?_, ?_⟩
    · simp [ju, hk]
    · simp [ju]
    · simp [ju]
    · simp [ju]
    · simp [ju, c]
    · simp [ju, c]
    · exact fr7.u (fr7.u (fun _ _ _ => rfl) (by omega)) (by omega)
theorem tiM_f {M : jm} {t : Nat} {z u N : Int} : (∀ k : Int, k ≠ 6 → k ≠ 12 → tiM M t z u N t k = M t k) ∧ tiM M t z u N t 6 = u + lvf (M t 2) (M t 5) ∧ tiM M t z u N t 12 = (if M t 12 ≠ 0 ∨ z = 1 then 1 else 0) ∧ (∀ k : Int, tiM M t z u N (t + 1) k = M (t + 1) k ∧ tiM M t z u N (t + 2) k = M (t + 2) k ∧ tiM M t z u N (t + 3) k = M (t + 3) k ∧ tiM M t z u N (t + 4) k = M (t + 4) k ∧ tiM M t z u N (t + 5) k = M (t + 5) k) ∧ (∀ k : Int, tiM M t z u N (t + 6) k = if k = z then jl_w (M (t + 6) z + 1) else M (t + 6) k) ∧ (∀ k : Int, tiM M t z u N (t + 7) k = if k = z then jl_w (M (t + 7) z + N) else M (t + 7) k) ∧ fr7 M (tiM M t z u N) t := by
  refine ⟨fun k h6 h12 => ?_, ?_, ?_, fun k => ?_, fun k => ?_, fun k => ?_, ?_⟩
  · simp [tiM, ju, h6, h12]
  · simp [tiM, ju]
  · simp [tiM, ju]
  · simp [tiM, ju]
  · simp [tiM, ju]
  · simp [tiM, ju]
  · exact fr7.u (fr7.u (fr7.u (fr7.u (fun _ _ _ => rfl) (by omega)) (by omega)) (by omega)) (by omega)
theorem ct6_f {K S : jm} {x g s : Int} (h : CT6 K S x g s) (n6 : K 629 g = 6) : (∀ j : Int, S 636 j = if j = s then jl_w (K 636 s + 1) else K 636 j) ∧ (∀ j : Int, S 637 j = if j = s then jl_w (K 637 s + K 600 x) else K 637 j) ∧ (∀ j : Int, S 634 j = if j = s then 1 else K 634 j) ∧ (∀ j : Int, S 632 j = if j = s then 1 else K 632 j) ∧ (∀ j : Int, S 635 j = if j = s then tw (rf K x) (K 604 (K 598 65) + 14) else K 635 j) ∧ (∀ j : Int, S 633 j = if j = s ∧ ¬ (K 632 s ≠ 0 ∧ j_w (ctE K x - K 633 s) ≤ 0) then ctE K x else K 633 j) ∧ ∀ (a : Nat) (j : Int), (a < 632 ∨ 637 < a) → S a j = K a j := by
  rcases h with h | ⟨-, c, h⟩ | ⟨-, c, h⟩
  · exact absurd n6 h.1
  · rw [h]
    refine ⟨fun j => ?_, fun j => ?_, fun j => ?_, fun j => ?_, fun j => ?_, fun j => ?_, fun a j ha => ?_⟩
    · simp [ct0, ju]
    · simp [ct0, ju]
    · simp [ct0, ju]
    · simp [ct0, ju]
    · simp [ct0, ju]
    · rw [if_neg (fun u => u.2 c)]
      simp [ct0, ju]
    · unfold ct0
      rw [ju_c _ _ (by omega), ju_c _ _ (by omega), ju_c _ _ (by omega), ju_c _ _ (by omega), ju_c _ _ (by omega)]
  · rw [h]
    refine ⟨fun j => ?_, fun j => ?_, fun j => ?_, fun j => ?_, fun j => ?_, fun j => ?_, fun a j ha => ?_⟩
    · simp [ct0, ju]
    · simp [ct0, ju]
    · simp [ct0, ju]
    · simp [ct0, ju]
    · simp [ct0, ju]
    · by_cases e : j = s
      · rw [if_pos ⟨e, c⟩]
        simp [ct0, ju, e]
      · rw [if_neg (fun u => e u.1)]
        simp [ct0, ju, e]
    · unfold ct0
      rw [ju_c _ _ (by omega), ju_c _ _ (by omega), ju_c _ _ (by omega), ju_c _ _ (by omega), ju_c _ _ (by omega), ju_c _ _ (by omega)]
theorem ct0_f {K : jm} {x s : Int} : (∀ j : Int, ct0 K x s 636 j = if j = s then jl_w (K 636 s + 1) else K 636 j) ∧ (∀ j : Int, ct0 K x s 637 j = if j = s then jl_w (K 637 s + K 600 x) else K 637 j) ∧ (∀ j : Int, ct0 K x s 634 j = if j = s then 1 else K 634 j) ∧ ∀ (a : Nat) (j : Int), (a < 634 ∨ a = 635 ∨ 637 < a) → ct0 K x s a j = K a j := by
  refine ⟨fun j => ?_, fun j => ?_, fun j => ?_, fun a j ha => ?_⟩
  · simp [ct0, ju]
  · simp [ct0, ju]
  · simp [ct0, ju]
  · unfold ct0
    rw [ju_c _ _ (by omega), ju_c _ _ (by omega), ju_c _ _ (by omega)]
theorem k6_f {B : jm} {g n t st : Int} : K6 B g n t st 638 g = st ∧ K6 B g n t st 639 g = t + lvf n st ∧ (∀ (a : Nat) (j : Int), (a ≠ 638 ∧ a ≠ 639) ∨ j ≠ g → K6 B g n t st a j = B a j) := by
  refine ⟨?_, ?_, fun a j h => ?_⟩
  · simp [K6, ju]
  · simp [K6, ju]
  · unfold K6
    rw [ju_ne _ _ (by omega), ju_ne _ _ (by omega)]
/-- a flow of a stream has taken a packet in -/
theorem fin6 {B B6 D S : jm} {t : Nat} {g z b e w u N x : Int} (h : FP B B6 t g) (hz : z = 0 ∨ z = 1) (hs : z = 0 ∨ B6 634 (2 * g) = 1) (n6 : B6 629 g = 6) (h01 : 0 ≤ B6 632 (2 * g + z) ∧ B6 632 (2 * g + z) ≤ 1) (h12 : 0 ≤ B6 634 (2 * g + 1) ∧ B6 634 (2 * g + 1) ≤ 1) (hD : D = tiM (tsM B t z b e w) t z u N) (hS : CT6 (K6 B6 g 6 u b) S x g (2 * g + z)) (he : ctE (K6 B6 g 6 u b) x = e) (hw : tw (rf (K6 B6 g 6 u b) x) (K6 B6 g 6 u b 604 (K6 B6 g 6 u b 598 65) + 14) = w) (hN : B6 600 x = N) (hb : 1 ≤ b ∧ b ≤ 10) : FL D S t g ∧ D t 0 = B t 0 ∧ S 627 g = B6 627 g ∧ fr7 B D t ∧ O7 B6 S g := by
  obtain ⟨c1, c2, c3, c4, c5, c6, c7⟩ := tsM_f (M := B) (t := t) (z := z) (b := b) (e := e) (w := w)
  obtain ⟨d1, d2, d3, d4, d5, d6, d7⟩ := tiM_f (M := tsM B t z b e w) (t := t) (z := z) (u := u) (N := N)
  obtain ⟨k1, k2, k3⟩ := k6_f (B := B6) (g := g) (n := 6) (t := u) (st := b)
  obtain ⟨s1, s2, s3, s4, s5, s6, s7⟩ := ct6_f hS (by rw [k3 629 g (by omega)]; exact n6)
  have K : ∀ (a : Nat) (j : Int), a ≠ 638 → a ≠ 639 → K6 B6 g 6 u b a j = B6 a j := fun a j h1 h2 => k3 a j (Or.inl ⟨h1, h2⟩)
  rw [he] at s6
  rw [hw] at s5
  simp only [K 636 _ (by decide) (by decide), K 637 _ (by decide) (by decide), K 634 _ (by decide) (by decide), K 632 _ (by decide) (by decide), K 633 _ (by decide) (by decide), K 635 _ (by decide) (by decide), K 600 _ (by decide) (by decide), hN] at s1 s2 s3 s4 s5 s6
  rw [← hD] at d1 d2 d3 d4 d5 d6 d7
  obtain ⟨f1, f2, f3, f4⟩ := h
  have fz := f2 z (by omega) (by omega)
  have S7 : ∀ (a : Nat) (j : Int), (a < 632 ∨ 637 < a) → a ≠ 638 → a ≠ 639 → S a j = B6 a j := fun a j h0 h1 h2 => (s7 a j h0).trans (K a j h1 h2)
  have cond : (B (t + 4) z = 0 ∨ 0 < j_w (e - B (t + 3) z)) ↔ ¬ (B6 632 (2 * g + z) ≠ 0 ∧ j_w (e - B6 633 (2 * g + z)) ≤ 0) := by
    rw [fz.2.2.1, fz.2.2.2]
    unfold l6x
    by_cases v : B6 632 (2 * g + z) = 0
    · exact ⟨fun _ u => u.1 v, fun _ => Or.inl v⟩
    · rw [if_neg v]
      omega
  refine ⟨⟨⟨?_, ?_, ?_, ?_, ?_⟩, fun s q0 q1 => ⟨⟨?_, ?_, ?_⟩, ⟨?_, ?_⟩, ?_, ?_⟩, ⟨?_, ?_⟩, ?_, ?_⟩, ?_, ?_, ?_, ?_⟩
  · rw [d1 1 (by decide) (by decide), c1 1 (by decide), S7 628 g (by decide) (by decide) (by decide)]; exact f1.1
  · rw [d1 2 (by decide) (by decide), c1 2 (by decide), S7 629 g (by decide) (by decide) (by decide)]; exact f1.2.1
  · rw [d1 5 (by decide) (by decide), c2, s7 638 g (by decide), k1]
  · rw [d2, c1 2 (by decide), c2, s7 639 g (by decide), k2, f1.2.1, n6]
  · rw [d1 13 (by decide) (by decide), c1 13 (by decide), S7 640 g (by decide) (by decide) (by decide)]; exact f1.2.2
  · rw [(d4 s).1, (c3 s).1, S7 630 _ (by decide) (by decide) (by decide)]; exact (f2 s q0 q1).1.1
  · rw [(d4 s).2.1, (c3 s).2.1, S7 631 _ (by decide) (by decide) (by decide)]; exact (f2 s q0 q1).1.2.1
  · rw [(d4 s).2.2.2.2, c4, s5]
    by_cases v : s = z
    · rw [if_pos v, if_pos (by omega)]
    · rw [if_neg v, if_neg (by omega)]; exact (f2 s q0 q1).1.2.2
  · rw [d5, s1, (c3 z).2.2.1, (c3 s).2.2.1, fz.2.1.1]
    by_cases v : s = z
    · rw [if_pos v, if_pos (by omega)]
    · rw [if_neg v, if_neg (by omega)]; exact (f2 s q0 q1).2.1.1
  · rw [d6, s2, (c3 z).2.2.2, (c3 s).2.2.2, fz.2.1.2]
    by_cases v : s = z
    · rw [if_pos v, if_pos (by omega)]
    · rw [if_neg v, if_neg (by omega)]; exact (f2 s q0 q1).2.1.2
  · rw [(d4 s).2.2.2.1, c5, s4]
    by_cases v : s = z
    · rw [if_pos (show 2 * g + s = 2 * g + z by omega)]
      by_cases cc : B (t + 4) z = 0 ∨ 0 < j_w (e - B (t + 3) z)
      · rw [if_pos ⟨v, cc⟩]
      · rw [if_neg (fun u => cc u.2), v, fz.2.2.1]
        have := fz.2.2.1
        omega
    · rw [if_neg (fun u => v u.1), if_neg (by omega)]; exact (f2 s q0 q1).2.2.1
  · rw [(d4 s).2.2.1, c6]
    unfold l6x
    rw [s4, s6]
    by_cases v : s = z
    · rw [if_pos (show 2 * g + s = 2 * g + z by omega), if_neg (show ¬ ((1 : Int) = 0) by decide)]
      by_cases cc : B (t + 4) z = 0 ∨ 0 < j_w (e - B (t + 3) z)
      · rw [if_pos ⟨v, cc⟩, if_pos ⟨by omega, cond.1 cc⟩]
      · rw [if_neg (fun u => cc u.2), if_neg (fun u => cc (cond.2 u.2)), v, fz.2.2.2]
        unfold l6x
        rw [if_neg (fun u => cc (Or.inl (by rw [fz.2.2.1]; exact u)))]
    · have ne : ¬ (2 * g + s = 2 * g + z) := by omega
      rw [if_neg (fun u => v u.1), if_neg ne, if_neg (show ¬ (2 * g + s = 2 * g + z ∧ ¬ (B6 632 (2 * g + z) ≠ 0 ∧ j_w (e - B6 633 (2 * g + z)) ≤ 0)) from fun u => ne u.1)]
      exact (f2 s q0 q1).2.2.2
  · rw [d3, c1 12 (by decide), s3, f3]
    rcases hz with v | v
    · rw [if_neg (show ¬ (2 * g + 1 = 2 * g + z) by omega)]
      by_cases y : B6 634 (2 * g + 1) = 0
      · rw [if_neg (by omega), y]
      · rw [if_pos (by omega)]; omega
    · rw [if_pos (by omega), if_pos (by omega)]
  · rw [s3]
    rcases hz with v | v
    · rw [if_pos (by omega)]
    · rw [if_neg (by omega)]; omega
  · rw [S7 640 g (by decide) (by decide) (by decide), S7 641 g (by decide) (by decide) (by decide), S7 642 g (by decide) (by decide) (by decide), S7 628 g (by decide) (by decide) (by decide), S7 629 g (by decide) (by decide) (by decide), d1 14 (by decide) (by decide), d1 15 (by decide) (by decide), c1 14 (by decide), c1 15 (by decide)]
    exact f4
  · rw [S7 629 g (by decide) (by decide) (by decide), s7 638 g (by decide), k1, n6]
    unfold stOK
    omega
  · rw [d1 0 (by decide) (by decide), c1 0 (by decide)]
  · exact S7 627 g (by decide) (by decide) (by decide)
  · exact fun b k hb => (d7 b k hb).trans (c7 b k hb)
  · refine ⟨fun b j hj hb => ?_, fun b j hj hb => ?_⟩
    · rw [s7 b j (by omega), k3 b j (Or.inr hj)]
    · rcases (show b = 630 ∨ b = 631 ∨ b = 632 ∨ b = 633 ∨ b = 634 ∨ b = 635 ∨ b = 636 ∨ b = 637 by omega) with rfl | rfl | rfl | rfl | rfl | rfl | rfl | rfl
      · exact S7 630 j (by decide) (by decide) (by decide)
      · exact S7 631 j (by decide) (by decide) (by decide)
      · rw [s4, if_neg (by omega)]
      · rw [s6, if_neg (by omega)]
      · rw [s3, if_neg (by omega)]
      · rw [s5, if_neg (by omega)]
      · rw [s1, if_neg (by omega)]
      · rw [s2, if_neg (by omega)]
/-- a flow of another sort has taken a packet in -/
theorem fin1 {B B6 D S : jm} {t : Nat} {g z b u N x n : Int} (h : FP B B6 t g) (hz : z = 0 ∨ z = 1) (hs : z = 0 ∨ B6 634 (2 * g) = 1) (n6 : B6 629 g = n) (hn : n = 1 ∨ n = 17) (h12 : 0 ≤ B6 634 (2 * g + 1) ∧ B6 634 (2 * g + 1) ≤ 1) (hD : D = tiM (if B t 2 = 17 ∧ z = 1 then ju B t 5 1 else B) t z u N) (hb : b = (if B t 2 = 17 ∧ z = 1 then 1 else B t 5)) (hS : CT6 (K6 B6 g n u b) S x g (2 * g + z)) (hN : B6 600 x = N) (ok : stOK n b) : FL D S t g ∧ D t 0 = B t 0 ∧ S 627 g = B6 627 g ∧ fr7 B D t ∧ O7 B6 S g := by
  have e0 : ∃ B1 : jm, B1 = (if B t 2 = 17 ∧ z = 1 then ju B t 5 1 else B) := ⟨_, rfl⟩
  obtain ⟨B1, hB⟩ := e0
  have c1 : ∀ k : Int, k ≠ 5 → B1 t k = B t k := fun k hk => by
    rw [hB]
    split
    · exact ju_i _ _ hk
    · rfl
  have c2 : B1 t 5 = b := by
    rw [hB, hb]
    split
    · exact ju_same _ _ _ _
    · rfl
  have c3 : ∀ (a : Nat) (k : Int), a ≠ t → B1 a k = B a k := fun a k ha => by
    rw [hB]
    split
    · exact ju_c _ _ ha
    · rfl
  rw [← hB] at hD
  obtain ⟨d1, d2, d3, d4, d5, d6, d7⟩ := tiM_f (M := B1) (t := t) (z := z) (u := u) (N := N)
  obtain ⟨k1, k2, k3⟩ := k6_f (B := B6) (g := g) (n := n) (t := u) (st := b)
  have K : ∀ (a : Nat) (j : Int), a ≠ 638 → a ≠ 639 → K6 B6 g n u b a j = B6 a j := fun a j h1 h2 => k3 a j (Or.inl ⟨h1, h2⟩)
  have hS0 : S = ct0 (K6 B6 g n u b) x (2 * g + z) := by
    rcases hS with q | q | q
    · exact q.2
    · have := q.1
      rw [K 629 g (by decide) (by decide), n6] at this
      omega
    · have := q.1
      rw [K 629 g (by decide) (by decide), n6] at this
      omega
  obtain ⟨s1, s2, s3, s7⟩ := ct0_f (K := K6 B6 g n u b) (x := x) (s := 2 * g + z)
  rw [← hS0] at s1 s2 s3 s7
  simp only [K 636 _ (by decide) (by decide), K 637 _ (by decide) (by decide), K 634 _ (by decide) (by decide), K 600 _ (by decide) (by decide), hN] at s1 s2 s3
  rw [← hD] at d1 d2 d3 d4 d5 d6 d7
  obtain ⟨f1, f2, f3, f4⟩ := h
  have fz := f2 z (by omega) (by omega)
  have S7 : ∀ (a : Nat) (j : Int), (a < 634 ∨ a = 635 ∨ 637 < a) → a ≠ 638 → a ≠ 639 → S a j = B6 a j := fun a j h0 h1 h2 => (s7 a j h0).trans (K a j h1 h2)
  refine ⟨⟨⟨?_, ?_, ?_, ?_, ?_⟩, fun s q0 q1 => ⟨⟨?_, ?_, ?_⟩, ⟨?_, ?_⟩, ?_, ?_⟩, ⟨?_, ?_⟩, ?_, ?_⟩, ?_, ?_, ?_, ?_⟩
  · rw [d1 1 (by decide) (by decide), c1 1 (by decide), S7 628 g (by decide) (by decide) (by decide)]; exact f1.1
  · rw [d1 2 (by decide) (by decide), c1 2 (by decide), S7 629 g (by decide) (by decide) (by decide)]; exact f1.2.1
  · rw [d1 5 (by decide) (by decide), c2, s7 638 g (by decide), k1]
  · rw [d2, c1 2 (by decide), c2, s7 639 g (by decide), k2, f1.2.1, n6]
  · rw [d1 13 (by decide) (by decide), c1 13 (by decide), S7 640 g (by decide) (by decide) (by decide)]; exact f1.2.2
  · rw [(d4 s).1, c3 _ s (by omega), S7 630 _ (by decide) (by decide) (by decide)]; exact (f2 s q0 q1).1.1
  · rw [(d4 s).2.1, c3 _ s (by omega), S7 631 _ (by decide) (by decide) (by decide)]; exact (f2 s q0 q1).1.2.1
  · rw [(d4 s).2.2.2.2, c3 _ s (by omega), S7 635 _ (by decide) (by decide) (by decide)]; exact (f2 s q0 q1).1.2.2
  · rw [d5, s1, c3 _ z (by omega), c3 _ s (by omega), fz.2.1.1]
    by_cases v : s = z
    · rw [if_pos v, if_pos (by omega)]
    · rw [if_neg v, if_neg (by omega)]; exact (f2 s q0 q1).2.1.1
  · rw [d6, s2, c3 _ z (by omega), c3 _ s (by omega), fz.2.1.2]
    by_cases v : s = z
    · rw [if_pos v, if_pos (by omega)]
    · rw [if_neg v, if_neg (by omega)]; exact (f2 s q0 q1).2.1.2
  · rw [(d4 s).2.2.2.1, c3 _ s (by omega), S7 632 _ (by decide) (by decide) (by decide)]; exact (f2 s q0 q1).2.2.1
  · rw [(d4 s).2.2.1, c3 _ s (by omega), l6x_e (S7 632 _ (by decide) (by decide) (by decide)) (S7 633 _ (by decide) (by decide) (by decide))]; exact (f2 s q0 q1).2.2.2
  · rw [d3, c1 12 (by decide), s3, f3]
    rcases hz with v | v
    · rw [if_neg (show ¬ (2 * g + 1 = 2 * g + z) by omega)]
      by_cases y : B6 634 (2 * g + 1) = 0
      · rw [if_neg (by omega), y]
      · rw [if_pos (by omega)]; omega
    · rw [if_pos (by omega), if_pos (by omega)]
  · rw [s3]
    rcases hz with v | v
    · rw [if_pos (by omega)]
    · rw [if_neg (by omega)]; omega
  · rw [S7 640 g (by decide) (by decide) (by decide), S7 641 g (by decide) (by decide) (by decide), S7 642 g (by decide) (by decide) (by decide), S7 628 g (by decide) (by decide) (by decide), S7 629 g (by decide) (by decide) (by decide), d1 14 (by decide) (by decide), d1 15 (by decide) (by decide), c1 14 (by decide), c1 15 (by decide)]
    exact f4
  · rw [S7 629 g (by decide) (by decide) (by decide), s7 638 g (by decide), k1, n6]
    exact ok
  · rw [d1 0 (by decide) (by decide), c1 0 (by decide)]
  · exact S7 627 g (by decide) (by decide) (by decide)
  · exact fun b k hb => (d7 b k hb).trans (c3 b k (by omega))
  · refine ⟨fun b j hj hb => ?_, fun b j hj hb => ?_⟩
    · rw [s7 b j (by omega), k3 b j (Or.inr hj)]
    · rcases (show b = 630 ∨ b = 631 ∨ b = 632 ∨ b = 633 ∨ b = 634 ∨ b = 635 ∨ b = 636 ∨ b = 637 by omega) with rfl | rfl | rfl | rfl | rfl | rfl | rfl | rfl
      · exact S7 630 j (by decide) (by decide) (by decide)
      · exact S7 631 j (by decide) (by decide) (by decide)
      · exact S7 632 j (by decide) (by decide) (by decide)
      · exact S7 633 j (by decide) (by decide) (by decide)
      · rw [s3, if_neg (by omega)]
      · exact S7 635 j (by decide) (by decide) (by decide)
      · rw [s1, if_neg (by omega)]
      · rw [s2, if_neg (by omega)]
