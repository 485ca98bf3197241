section
/-! ===== both sides answer alike: track ===== -/
/-- the reference holds the headers of f; the packet's own header is I -/
noncomputable def TKC (M : jm) (f : Int → Int) (N C x I : Int) : Prop := HT M f N C ∧ (0 ≤ I ∧ I < C) ∧ M 598 65 = I ∧ rf M x = f ∧ M 600 x = N
theorem TKC.e {E M : jm} {f : Int → Int} {N C x I : Int} (h : TKC E f N C x I) (e : ∀ (b : Nat) (i : Int), 600 ≤ b → b ≤ 605 → M b i = E b i) (e6 : M 598 6 = E 598 6) (e5 : M 598 65 = E 598 65) : TKC M f N C x I := by
  obtain ⟨h1, h2, h3, h4, h5⟩ := h
  refine ⟨⟨by rw [e6]; exact h1.1, fun i i0 i1 => ?_, h1.2.2⟩, h2, by rw [e5]; exact h3, ?_, by rw [e 600 x (by decide) (by decide)]; exact h5⟩
  · rw [e (602 + 1) i (by decide) (by decide), e (602 + 2) i (by decide) (by decide), e (602 + 3) i (by decide) (by decide)]
    exact h1.2.1 i i0 i1
  · rw [← h4]
    exact rf_e (fun i => e 601 i (by decide) (by decide))
theorem tk_v8 {M : jm} {f : Int → Int} {N C I : Int} (ht : HT M f N C) (hi : 0 ≤ I ∧ I < C) (k8 : kA f N C I = 8) : vA f N C I 5 = f (hY f N I + 13) ∧ vA f N C I 2 = nbs f (hY f N I + 4) 4 ∧ vA f N C I 6 = tw f (hY f N I + 14) ∧ hX f N I = 8 := by
  have k := k8
  rw [kA_i hi] at k
  have y0 := ht.y hi
  have b := HT.f ht hi
  rw [k] at b
  have l20 : lst 8 = 20 := rfl
  have hN := ht.2.2.1
  have b13 := ht.2.2.2 (hY f N I + 13) (by omega) (by omega)
  have b14 := ht.2.2.2 (hY f N I + 14) (by omega) (by omega)
  have b15 := ht.2.2.2 (hY f N I + 14 + 1) (by omega) (by omega)
  have r4 := nbs_r4 (f := f) (y := hY f N I + 4) (n := 4) (by decide) (fun i i0 i1 => ht.2.2.2 i (by omega) (by omega))
  rw [vA_k (j := 5) hi k (by decide +kernel), vof_8_5, vA_k (j := 2) hi k (by decide +kernel), vof_8_2, vA_k (j := 6) hi k (by decide +kernel), vof_8_6, nbs_1, nbs_2]
  unfold tw
  omega
theorem tk_v7 {M : jm} {f : Int → Int} {N C I : Int} (ht : HT M f N C) (hi : 0 ≤ I ∧ I < C) (k7 : kA f N C I = 7) : vA f N C I 0 = f (hY f N I) := by
  have k := k7
  rw [kA_i hi] at k
  have y0 := ht.y hi
  have b := HT.f ht hi
  rw [k] at b
  have l8 : lst 7 = 8 := rfl
  have hN := ht.2.2.1
  have b0 := ht.2.2.2 (hY f N I) (by omega) (by omega)
  rw [vA_k (j := 0) hi k (by decide +kernel), vof_7_0, nbs_1, Int.add_zero]
  omega
theorem TKC.v {M : jm} {f : Int → Int} {N C x I : Int} (h : TKC M f N C x I) (k8 : kA f N C I = 8) : clE M x = tsS f N C I ∧ lg6 M x = tsN f N C I ∧ sq6 M x = tsQ f N C I ∧ tw (rf M x) (M 604 (M 598 65) + 14) = vA f N C I 6 := by
  obtain ⟨h1, h2, h3, h4, h5⟩ := h
  have v := tk_v8 h1 h2 k8
  have b := HT.f h1 h2
  have e13 : M 601 (400 * x + (hY f N I + 13)) = f (hY f N I + 13) := congrFun h4 (hY f N I + 13)
  have en : enf f N C I = hY f N I + hZ f N I := by
    unfold enf
    rw [if_pos h2]
  refine ⟨?_, ?_, ?_, ?_⟩
  · unfold clE tsS
    rw [h3, b.2.1, e13, v.1]
  · unfold lg6 tsN
    rw [h3, b.2.1, b.2.2.1, e13, v.1, h5, en]
    omega
  · unfold sq6 tsQ
    rw [h3, b.2.1, h4, v.2.1]
  · rw [h3, b.2.1, h4, v.2.2.1]
/-- a flow before it takes a packet in: all but its state, its end and who has sent -/
noncomputable def FP (C R : jm) (t : Nat) (f : Int) : Prop := (C t 1 = R 628 f ∧ C t 2 = R 629 f ∧ C t 13 = R 640 f) ∧ (∀ s : Int, 0 ≤ s → s < 2 → (C (t + 1) s = R 630 (2 * f + s) ∧ C (t + 2) s = R 631 (2 * f + s) ∧ C (t + 5) s = R 635 (2 * f + s)) ∧ (C (t + 6) s = R 636 (2 * f + s) ∧ C (t + 7) s = R 637 (2 * f + s)) ∧ C (t + 4) s = R 632 (2 * f + s) ∧ C (t + 3) s = l6x R (2 * f + s)) ∧ C t 12 = R 634 (2 * f + 1) ∧ ((R 640 f = -1 ∧ C t 15 = -1) ∨ (R 640 f ≠ -1 ∧ C t 14 = R 641 f ∧ C t 15 = R 642 f ∧ R 628 f = 0 ∧ R 629 f ≠ 1))
theorem FL.p {C R : jm} {t : Nat} {f : Int} (h : FL C R t f) : FP C R t f := ⟨⟨h.1.1, h.1.2.1, h.1.2.2.2.2⟩, h.2.1, h.2.2.1.1, h.2.2.2.1⟩
theorem tsM_f {M : jm} {t : Nat} {z b e w : Int} : (∀ k : Int, k ≠ 5 → tsM M t z b e w t k = M t k) ∧ tsM M t z b e w t 5 = b ∧ (∀ k : Int, tsM M t z b e w (t + 1) k = M (t + 1) k ∧ tsM M t z b e w (t + 2) k = M (t + 2) k ∧ tsM M t z b e w (t + 6) k = M (t + 6) k ∧ tsM M t z b e w (t + 7) k = M (t + 7) k) ∧ (∀ k : Int, tsM M t z b e w (t + 5) k = if k = z then w else M (t + 5) k) ∧ (∀ k : Int, tsM M t z b e w (t + 4) k = if k = z ∧ (M (t + 4) z = 0 ∨ 0 < j_w (e - M (t + 3) z)) then 1 else M (t + 4) k) ∧ (∀ k : Int, tsM M t z b e w (t + 3) k = if k = z ∧ (M (t + 4) z = 0 ∨ 0 < j_w (e - M (t + 3) z)) then e else M (t + 3) k) ∧ fr7 M (tsM M t z b e w) t := by
  by_cases c : M (t + 4) z = 0 ∨ 0 < j_w (e - M (t + 3) z)
  · rw [tsM_p c]
    refine ⟨fun k hk => ?_, ?_, fun k => ?_, fun k => ?_, fun k => ?_, fun k => ?_, ?_⟩
    · simp [ju, hk]
    · simp [ju]
    · simp [ju]
    · simp [ju]
    · simp [ju, c]
    · simp [ju, c]
    · exact fr7.u (fr7.u (fr7.u (fr7.u (fun _ _ _ => rfl) (by omega)) (by omega)) (by omega)) (by omega)
  · rw [tsM_n c]
    refine ⟨fun k hk => ?_, ?_, fun k => ?_, fun k => ?_, fun k => ?_, fun k => ?_, ?_⟩
    · simp [ju, hk]
    · simp [ju]
    · simp [ju]
    · simp [ju]
    · simp [ju, c]
    · simp [ju, c]
    · exact fr7.u (fr7.u (fun _ _ _ => rfl) (by omega)) (by omega)
theorem tiM_f {M : jm} {t : Nat} {z u N : Int} : (∀ k : Int, k ≠ 6 → k ≠ 12 → tiM M t z u N t k = M t k) ∧ tiM M t z u N t 6 = u + lvf (M t 2) (M t 5) ∧ tiM M t z u N t 12 = (if M t 12 ≠ 0 ∨ z = 1 then 1 else 0) ∧ (∀ k : Int, tiM M t z u N (t + 1) k = M (t + 1) k ∧ tiM M t z u N (t + 2) k = M (t + 2) k ∧ tiM M t z u N (t + 3) k = M (t + 3) k ∧ tiM M t z u N (t + 4) k = M (t + 4) k ∧ tiM M t z u N (t + 5) k = M (t + 5) k) ∧ (∀ k : Int, tiM M t z u N (t + 6) k = if k = z then jl_w (M (t + 6) z + 1) else M (t + 6) k) ∧ (∀ k : Int, tiM M t z u N (t + 7) k = if k = z then jl_w (M (t + 7) z + N) else M (t + 7) k) ∧ fr7 M (tiM M t z u N) t := by
  refine ⟨fun k h6 h12 => ?_, ?_, ?_, fun k => ?_, fun k => ?_, fun k => ?_, ?_⟩
  · simp [tiM, ju, h6, h12]
  · simp [tiM, ju]
  · simp [tiM, ju]
  · simp [tiM, ju]
  · simp [tiM, ju]
  · simp [tiM, ju]
  · exact fr7.u (fr7.u (fr7.u (fr7.u (fun _ _ _ => rfl) (by omega)) (by omega)) (by omega)) (by omega)
theorem ct6_f {K S : jm} {x g s : Int} (h : CT6 K S x g s) (n6 : K 629 g = 6) : (∀ j : Int, S 636 j = if j = s then jl_w (K 636 s + 1) else K 636 j) ∧ (∀ j : Int, S 637 j = if j = s then jl_w (K 637 s + K 600 x) else K 637 j) ∧ (∀ j : Int, S 634 j = if j = s then 1 else K 634 j) ∧ (∀ j : Int, S 632 j = if j = s then 1 else K 632 j) ∧ (∀ j : Int, S 635 j = if j = s then tw (rf K x) (K 604 (K 598 65) + 14) else K 635 j) ∧ (∀ j : Int, S 633 j = if j = s ∧ ¬ (K 632 s ≠ 0 ∧ j_w (ctE K x - K 633 s) ≤ 0) then ctE K x else K 633 j) ∧ ∀ (a : Nat) (j : Int), (a < 632 ∨ 637 < a) → S a j = K a j := by
  rcases h with h | ⟨-, c, h⟩ | ⟨-, c, h⟩
  · exact absurd n6 h.1
  · rw [h]
    refine ⟨fun j => ?_, fun j => ?_, fun j => ?_, fun j => ?_, fun j => ?_, fun j => ?_, fun a j ha => ?_⟩
    · simp [ct0, ju]
    · simp [ct0, ju]
    · simp [ct0, ju]
    · simp [ct0, ju]
    · simp [ct0, ju]
    · rw [if_neg (fun u => u.2 c)]
      simp [ct0, ju]
    · unfold ct0
      rw [ju_c _ _ (by omega), ju_c _ _ (by omega), ju_c _ _ (by omega), ju_c _ _ (by omega), ju_c _ _ (by omega)]
  · rw [h]
    refine ⟨fun j => ?_, fun j => ?_, fun j => ?_, fun j => ?_, fun j => ?_, fun j => ?_, fun a j ha => ?_⟩
    · simp [ct0, ju]
    · simp [ct0, ju]
    · simp [ct0, ju]
    · simp [ct0, ju]
    · simp [ct0, ju]
    · by_cases e : j = s
      · rw [if_pos ⟨e, c⟩]
        simp [ct0, ju, e]
      · rw [if_neg (fun u => e u.1)]
        simp [ct0, ju, e]
    · unfold ct0
      rw [ju_c _ _ (by omega), ju_c _ _ (by omega), ju_c _ _ (by omega), ju_c _ _ (by omega), ju_c _ _ (by omega), ju_c _ _ (by omega)]
theorem ct0_f {K : jm} {x s : Int} : (∀ j : Int, ct0 K x s 636 j = if j = s then jl_w (K 636 s + 1) else K 636 j) ∧ (∀ j : Int, ct0 K x s 637 j = if j = s then jl_w (K 637 s + K 600 x) else K 637 j) ∧ (∀ j : Int, ct0 K x s 634 j = if j = s then 1 else K 634 j) ∧ ∀ (a : Nat) (j : Int), (a < 634 ∨ a = 635 ∨ 637 < a) → ct0 K x s a j = K a j := by
  refine ⟨fun j => ?_, fun j => ?_, fun j => ?_, fun a j ha => ?_⟩
  · simp [ct0, ju]
  · simp [ct0, ju]
  · simp [ct0, ju]
  · unfold ct0
    rw [ju_c _ _ (by omega), ju_c _ _ (by omega), ju_c _ _ (by omega)]
theorem k6_f {B : jm} {g n t st : Int} : K6 B g n t st 638 g = st ∧ K6 B g n t st 639 g = t + lvf n st ∧ (∀ (a : Nat) (j : Int), (a ≠ 638 ∧ a ≠ 639) ∨ j ≠ g → K6 B g n t st a j = B a j) := by
  refine ⟨?_, ?_, fun a j h => ?_⟩
  · simp [K6, ju]
  · simp [K6, ju]
  · unfold K6
    rw [ju_ne _ _ (by omega), ju_ne _ _ (by omega)]
/-- a flow of a stream has taken a packet in -/
theorem fin6 {B B6 D S : jm} {t : Nat} {g z b e w u N x : Int} (h : FP B B6 t g) (hz : z = 0 ∨ z = 1) (hs : z = 0 ∨ B6 634 (2 * g) = 1) (n6 : B6 629 g = 6) (h01 : 0 ≤ B6 632 (2 * g + z) ∧ B6 632 (2 * g + z) ≤ 1) (h12 : 0 ≤ B6 634 (2 * g + 1) ∧ B6 634 (2 * g + 1) ≤ 1) (hD : D = tiM (tsM B t z b e w) t z u N) (hS : CT6 (K6 B6 g 6 u b) S x g (2 * g + z)) (he : ctE (K6 B6 g 6 u b) x = e) (hw : tw (rf (K6 B6 g 6 u b) x) (K6 B6 g 6 u b 604 (K6 B6 g 6 u b 598 65) + 14) = w) (hN : B6 600 x = N) (hb : 1 ≤ b ∧ b ≤ 10) : FL D S t g ∧ D t 0 = B t 0 ∧ S 627 g = B6 627 g ∧ fr7 B D t ∧ O7 B6 S g := by
  obtain ⟨c1, c2, c3, c4, c5, c6, c7⟩ := tsM_f (M := B) (t := t) (z := z) (b := b) (e := e) (w := w)
  obtain ⟨d1, d2, d3, d4, d5, d6, d7⟩ := tiM_f (M := tsM B t z b e w) (t := t) (z := z) (u := u) (N := N)
  obtain ⟨k1, k2, k3⟩ := k6_f (B := B6) (g := g) (n := 6) (t := u) (st := b)
  obtain ⟨s1, s2, s3, s4, s5, s6, s7⟩ := ct6_f hS (by rw [k3 629 g (by omega)]; exact n6)
  have K : ∀ (a : Nat) (j : Int), a ≠ 638 → a ≠ 639 → K6 B6 g 6 u b a j = B6 a j := fun a j h1 h2 => k3 a j (Or.inl ⟨h1, h2⟩)
  rw [he] at s6
  rw [hw] at s5
  simp only [K 636 _ (by decide) (by decide), K 637 _ (by decide) (by decide), K 634 _ (by decide) (by decide), K 632 _ (by decide) (by decide), K 633 _ (by decide) (by decide), K 635 _ (by decide) (by decide), K 600 _ (by decide) (by decide), hN] at s1 s2 s3 s4 s5 s6
  rw [← hD] at d1 d2 d3 d4 d5 d6 d7
  obtain ⟨f1, f2, f3, f4⟩ := h
  have fz := f2 z (by omega) (by omega)
  have S7 : ∀ (a : Nat) (j : Int), (a < 632 ∨ 637 < a) → a ≠ 638 → a ≠ 639 → S a j = B6 a j := fun a j h0 h1 h2 => (s7 a j h0).trans (K a j h1 h2)
  have cond : (B (t + 4) z = 0 ∨ 0 < j_w (e - B (t + 3) z)) ↔ ¬ (B6 632 (2 * g + z) ≠ 0 ∧ j_w (e - B6 633 (2 * g + z)) ≤ 0) := by
    rw [fz.2.2.1, fz.2.2.2]
    unfold l6x
    by_cases v : B6 632 (2 * g + z) = 0
    · exact ⟨fun _ u => u.1 v, fun _ => Or.inl v⟩
    · rw [if_neg v]
      omega
  have cond2 := HIX.i cond
  have hs2 := HIX.i hs
  clear cond hs
  refine ⟨⟨⟨?_, ?_, ?_, ?_, ?_⟩, fun s q0 q1 => ⟨⟨?_, ?_, ?_⟩, ⟨?_, ?_⟩, ?_, ?_⟩, ⟨?_, ?_⟩, ?_, ?_⟩, ?_, ?_, ?_, ?_⟩
  · rw [d1 1 (by decide) (by decide), c1 1 (by decide), S7 628 g (by decide) (by decide) (by decide)]; exact f1.1
  · rw [d1 2 (by decide) (by decide), c1 2 (by decide), S7 629 g (by decide) (by decide) (by decide)]; exact f1.2.1
  · rw [d1 5 (by decide) (by decide), c2, s7 638 g (by decide), k1]
  · rw [d2, c1 2 (by decide), c2, s7 639 g (by decide), k2, f1.2.1, n6]
  · rw [d1 13 (by decide) (by decide), c1 13 (by decide), S7 640 g (by decide) (by decide) (by decide)]; exact f1.2.2
  · rw [(d4 s).1, (c3 s).1, S7 630 _ (by decide) (by decide) (by decide)]; exact (f2 s q0 q1).1.1
  · rw [(d4 s).2.1, (c3 s).2.1, S7 631 _ (by decide) (by decide) (by decide)]; exact (f2 s q0 q1).1.2.1
  · rw [(d4 s).2.2.2.2, c4, s5]
    by_cases v : s = z
    · rw [if_pos v, if_pos (show 2 * g + s = 2 * g + z from congrArg (fun y => 2 * g + y) v)]
    · rw [if_neg v, if_neg (show ¬ (2 * g + s = 2 * g + z) from fun u => v (Int.add_left_cancel u))]; exact (f2 s q0 q1).1.2.2
  · rw [d5, s1, (c3 z).2.2.1, (c3 s).2.2.1, fz.2.1.1]
    by_cases v : s = z
    · rw [if_pos v, if_pos (show 2 * g + s = 2 * g + z from congrArg (fun y => 2 * g + y) v)]
    · rw [if_neg v, if_neg (show ¬ (2 * g + s = 2 * g + z) from fun u => v (Int.add_left_cancel u))]; exact (f2 s q0 q1).2.1.1
  · rw [d6, s2, (c3 z).2.2.2, (c3 s).2.2.2, fz.2.1.2]
    by_cases v : s = z
    · rw [if_pos v, if_pos (show 2 * g + s = 2 * g + z from congrArg (fun y => 2 * g + y) v)]
    · rw [if_neg v, if_neg (show ¬ (2 * g + s = 2 * g + z) from fun u => v (Int.add_left_cancel u))]; exact (f2 s q0 q1).2.1.2
  · rw [(d4 s).2.2.2.1, c5, s4]
    by_cases v : s = z
    · rw [if_pos (show 2 * g + s = 2 * g + z by omega)]
      by_cases cc : B (t + 4) z = 0 ∨ 0 < j_w (e - B (t + 3) z)
      · rw [if_pos ⟨v, cc⟩]
      · rw [if_neg (fun u => cc u.2), v, fz.2.2.1]
        have := fz.2.2.1
        omega
    · rw [if_neg (fun u => v u.1), if_neg (by omega)]; exact (f2 s q0 q1).2.2.1
  · rw [(d4 s).2.2.1, c6]
    unfold l6x
    rw [s4, s6]
    by_cases v : s = z
    · rw [if_pos (show 2 * g + s = 2 * g + z by omega), if_neg (show ¬ ((1 : Int) = 0) by decide)]
      by_cases cc : B (t + 4) z = 0 ∨ 0 < j_w (e - B (t + 3) z)
      · rw [if_pos ⟨v, cc⟩, if_pos ⟨by omega, (HIX.e cond2).1 cc⟩]
      · rw [if_neg (fun u => cc u.2), if_neg (fun u => cc ((HIX.e cond2).2 u.2)), v, fz.2.2.2]
        unfold l6x
        rw [if_neg (fun u => cc (Or.inl (by rw [fz.2.2.1]; exact u)))]
    · have ne : ¬ (2 * g + s = 2 * g + z) := by omega
      rw [if_neg (fun u => v u.1), if_neg ne, if_neg (show ¬ (2 * g + s = 2 * g + z ∧ ¬ (B6 632 (2 * g + z) ≠ 0 ∧ j_w (e - B6 633 (2 * g + z)) ≤ 0)) from fun u => ne u.1)]
      exact (f2 s q0 q1).2.2.2
  · have hs := HIX.e hs2
    rw [d3, c1 12 (by decide), s3, f3]
    rcases hz with v | v
    · rw [if_neg (show ¬ (2 * g + 1 = 2 * g + z) by omega)]
      by_cases y : B6 634 (2 * g + 1) = 0
      · rw [if_neg (by omega), y]
      · rw [if_pos (by omega)]; omega
    · rw [if_pos (by omega), if_pos (by omega)]
  · have hs := HIX.e hs2
    rw [s3]
    rcases hz with v | v
    · rw [if_pos (by omega)]
    · rw [if_neg (by omega)]; omega
  · rw [S7 640 g (by decide) (by decide) (by decide), S7 641 g (by decide) (by decide) (by decide), S7 642 g (by decide) (by decide) (by decide), S7 628 g (by decide) (by decide) (by decide), S7 629 g (by decide) (by decide) (by decide), d1 14 (by decide) (by decide), d1 15 (by decide) (by decide), c1 14 (by decide), c1 15 (by decide)]
    exact f4
  · rw [S7 629 g (by decide) (by decide) (by decide), s7 638 g (by decide), k1, n6]
    unfold stOK
    omega
  · rw [d1 0 (by decide) (by decide), c1 0 (by decide)]
  · exact S7 627 g (by decide) (by decide) (by decide)
  · exact fun b k hb => (d7 b k hb).trans (c7 b k hb)
  · refine ⟨fun b j hj hb => ?_, fun b j hj hb => ?_⟩
    · rw [s7 b j (by omega), k3 b j (Or.inr hj)]
    · rcases (show b = 630 ∨ b = 631 ∨ b = 632 ∨ b = 633 ∨ b = 634 ∨ b = 635 ∨ b = 636 ∨ b = 637 by omega) with rfl | rfl | rfl | rfl | rfl | rfl | rfl | rfl
      · exact S7 630 j (by decide) (by decide) (by decide)
      · exact S7 631 j (by decide) (by decide) (by decide)
      · rw [s4, if_neg (by omega)]
      · rw [s6, if_neg (by omega)]
      · rw [s3, if_neg (by omega)]
      · rw [s5, if_neg (by omega)]
      · rw [s1, if_neg (by omega)]
      · rw [s2, if_neg (by omega)]
/-- a flow of another sort has taken a packet in -/
theorem fin1 {B B6 D S : jm} {t : Nat} {g z b u N x n : Int} (h : FP B B6 t g) (hz : z = 0 ∨ z = 1) (hs : z = 0 ∨ B6 634 (2 * g) = 1) (n6 : B6 629 g = n) (hn : n = 1 ∨ n = 17) (h12 : 0 ≤ B6 634 (2 * g + 1) ∧ B6 634 (2 * g + 1) ≤ 1) (hD : D = tiM (if B t 2 = 17 ∧ z = 1 then ju B t 5 1 else B) t z u N) (hb : b = (if B t 2 = 17 ∧ z = 1 then 1 else B t 5)) (hS : CT6 (K6 B6 g n u b) S x g (2 * g + z)) (hN : B6 600 x = N) (ok : stOK n b) : FL D S t g ∧ D t 0 = B t 0 ∧ S 627 g = B6 627 g ∧ fr7 B D t ∧ O7 B6 S g := by
  have e0 : ∃ B1 : jm, B1 = (if B t 2 = 17 ∧ z = 1 then ju B t 5 1 else B) := ⟨_, rfl⟩
  obtain ⟨B1, hB⟩ := e0
  have c1 : ∀ k : Int, k ≠ 5 → B1 t k = B t k := fun k hk => by
    rw [hB]
    split
    · exact ju_i _ _ hk
    · rfl
  have c2 : B1 t 5 = b := by
    rw [hB, hb]
    split
    · exact ju_same _ _ _ _
    · rfl
  clear hb
  have c3 : ∀ (a : Nat) (k : Int), a ≠ t → B1 a k = B a k := fun a k ha => by
    rw [hB]
    split
    · exact ju_c _ _ ha
    · rfl
  rw [← hB] at hD
  obtain ⟨d1, d2, d3, d4, d5, d6, d7⟩ := tiM_f (M := B1) (t := t) (z := z) (u := u) (N := N)
  obtain ⟨k1, k2, k3⟩ := k6_f (B := B6) (g := g) (n := n) (t := u) (st := b)
  have K : ∀ (a : Nat) (j : Int), a ≠ 638 → a ≠ 639 → K6 B6 g n u b a j = B6 a j := fun a j h1 h2 => k3 a j (Or.inl ⟨h1, h2⟩)
  have hS0 : S = ct0 (K6 B6 g n u b) x (2 * g + z) := by
    rcases hS with q | q | q
    · exact q.2
    · have := q.1
      rw [K 629 g (by decide) (by decide), n6] at this
      omega
    · have := q.1
      rw [K 629 g (by decide) (by decide), n6] at this
      omega
  obtain ⟨s1, s2, s3, s7⟩ := ct0_f (K := K6 B6 g n u b) (x := x) (s := 2 * g + z)
  rw [← hS0] at s1 s2 s3 s7
  simp only [K 636 _ (by decide) (by decide), K 637 _ (by decide) (by decide), K 634 _ (by decide) (by decide), K 600 _ (by decide) (by decide), hN] at s1 s2 s3
  rw [← hD] at d1 d2 d3 d4 d5 d6 d7
  obtain ⟨f1, f2, f3, f4⟩ := h
  have fz := f2 z (by omega) (by omega)
  have S7 : ∀ (a : Nat) (j : Int), (a < 634 ∨ a = 635 ∨ 637 < a) → a ≠ 638 → a ≠ 639 → S a j = B6 a j := fun a j h0 h1 h2 => (s7 a j h0).trans (K a j h1 h2)
  have hs2 := HIX.i hs
  clear hs hn
  refine ⟨⟨⟨?_, ?_, ?_, ?_, ?_⟩, fun s q0 q1 => ⟨⟨?_, ?_, ?_⟩, ⟨?_, ?_⟩, ?_, ?_⟩, ⟨?_, ?_⟩, ?_, ?_⟩, ?_, ?_, ?_, ?_⟩
  · rw [d1 1 (by decide) (by decide), c1 1 (by decide), S7 628 g (by decide) (by decide) (by decide)]; exact f1.1
  · rw [d1 2 (by decide) (by decide), c1 2 (by decide), S7 629 g (by decide) (by decide) (by decide)]; exact f1.2.1
  · rw [d1 5 (by decide) (by decide), c2, s7 638 g (by decide), k1]
  · rw [d2, c1 2 (by decide), c2, s7 639 g (by decide), k2, f1.2.1, n6]
  · rw [d1 13 (by decide) (by decide), c1 13 (by decide), S7 640 g (by decide) (by decide) (by decide)]; exact f1.2.2
  · rw [(d4 s).1, c3 _ s (by omega), S7 630 _ (by decide) (by decide) (by decide)]; exact (f2 s q0 q1).1.1
  · rw [(d4 s).2.1, c3 _ s (by omega), S7 631 _ (by decide) (by decide) (by decide)]; exact (f2 s q0 q1).1.2.1
  · rw [(d4 s).2.2.2.2, c3 _ s (by omega), S7 635 _ (by decide) (by decide) (by decide)]; exact (f2 s q0 q1).1.2.2
  · rw [d5, s1, c3 _ z (by omega), c3 _ s (by omega), fz.2.1.1]
    by_cases v : s = z
    · rw [if_pos v, if_pos (show 2 * g + s = 2 * g + z from congrArg (fun y => 2 * g + y) v)]
    · rw [if_neg v, if_neg (show ¬ (2 * g + s = 2 * g + z) from fun u => v (Int.add_left_cancel u))]; exact (f2 s q0 q1).2.1.1
  · rw [d6, s2, c3 _ z (by omega), c3 _ s (by omega), fz.2.1.2]
    by_cases v : s = z
    · rw [if_pos v, if_pos (show 2 * g + s = 2 * g + z from congrArg (fun y => 2 * g + y) v)]
    · rw [if_neg v, if_neg (show ¬ (2 * g + s = 2 * g + z) from fun u => v (Int.add_left_cancel u))]; exact (f2 s q0 q1).2.1.2
  · rw [(d4 s).2.2.2.1, c3 _ s (by omega), S7 632 _ (by decide) (by decide) (by decide)]; exact (f2 s q0 q1).2.2.1
  · rw [(d4 s).2.2.1, c3 _ s (by omega), l6x_e (S7 632 _ (by decide) (by decide) (by decide)) (S7 633 _ (by decide) (by decide) (by decide))]; exact (f2 s q0 q1).2.2.2
  · have hs := HIX.e hs2
    rw [d3, c1 12 (by decide), s3, f3]
    rcases hz with v | v
    · rw [if_neg (show ¬ (2 * g + 1 = 2 * g + z) by omega)]
      by_cases y : B6 634 (2 * g + 1) = 0
      · rw [if_neg (by omega), y]
      · rw [if_pos (by omega)]; omega
    · rw [if_pos (by omega), if_pos (by omega)]
  · have hs := HIX.e hs2
    rw [s3]
    rcases hz with v | v
    · rw [if_pos (by omega)]
    · rw [if_neg (by omega)]; omega
  · rw [S7 640 g (by decide) (by decide) (by decide), S7 641 g (by decide) (by decide) (by decide), S7 642 g (by decide) (by decide) (by decide), S7 628 g (by decide) (by decide) (by decide), S7 629 g (by decide) (by decide) (by decide), d1 14 (by decide) (by decide), d1 15 (by decide) (by decide), c1 14 (by decide), c1 15 (by decide)]
    exact f4
  · rw [S7 629 g (by decide) (by decide) (by decide), s7 638 g (by decide), k1, n6]
    exact ok
  · rw [d1 0 (by decide) (by decide), c1 0 (by decide)]
  · exact S7 627 g (by decide) (by decide) (by decide)
  · exact fun b k hb => (d7 b k hb).trans (c3 b k (by omega))
  · refine ⟨fun b j hj hb => ?_, fun b j hj hb => ?_⟩
    · rw [s7 b j (by omega), k3 b j (Or.inr hj)]
    · rcases (show b = 630 ∨ b = 631 ∨ b = 632 ∨ b = 633 ∨ b = 634 ∨ b = 635 ∨ b = 636 ∨ b = 637 by omega) with rfl | rfl | rfl | rfl | rfl | rfl | rfl | rfl
      · exact S7 630 j (by decide) (by decide) (by decide)
      · exact S7 631 j (by decide) (by decide) (by decide)
      · exact S7 632 j (by decide) (by decide) (by decide)
      · exact S7 633 j (by decide) (by decide) (by decide)
      · rw [s3, if_neg (by omega)]
      · exact S7 635 j (by decide) (by decide) (by decide)
      · rw [s1, if_neg (by omega)]
      · rw [s2, if_neg (by omega)]
end
section
/-! ===== both sides answer alike: track, the whole ===== -/
theorem scf_r (x : Int) : 0 ≤ scf x ∧ scf x ≤ 5 := by
  unfold scf
  (repeat' split) <;> omega
theorem nxk_r {k : Int} (h : 7 ≤ k ∧ k ≤ 9) : (k = 7 ∧ nxk k = 1) ∨ (k = 8 ∧ nxk k = 6) ∨ (k = 9 ∧ nxk k = 17) := by
  rcases (show k = 7 ∨ k = 8 ∨ k = 9 by omega) with rfl | rfl | rfl
  · exact Or.inl ⟨rfl, rfl⟩
  · exact Or.inr (Or.inl ⟨rfl, rfl⟩)
  · exact Or.inr (Or.inr ⟨rfl, rfl⟩)
theorem may_iff {M : jm} {f : Int → Int} {N C x I : Int} (h : TKC M f N C x I) (hk : 7 ≤ kA f N C I ∧ kA f N C I ≤ 9) (hn : M 598 60 = nxk (kA f N C I)) : mayF f N C I (M 598 60) ↔ mayE M x := by
  unfold mayF mayE
  rw [hn]
  rcases nxk_r hk with ⟨k, e⟩ | ⟨k, e⟩ | ⟨k, e⟩
  · have v := tk_v7 h.1 h.2.1 k
    have b := (HT.f h.1 h.2.1).2.1
    have e0 : M 601 (400 * x + M 604 (M 598 65)) = f (hY f N I) := by rw [h.2.2.1, b]; exact congrFun h.2.2.2.1 (hY f N I)
    rw [e, v, e0]
    constructor
    · intro u
      exact Or.inr ⟨by decide, Or.inr (u.2 rfl)⟩
    · intro u
      refine ⟨fun z => absurd z (by decide), fun _ => ?_⟩
      rcases u with u | u
      · exact absurd u.1 (by decide)
      · rcases u.2 with z | z
        · exact absurd z (by decide)
        · exact z
  · have v := (h.v k).1
    rw [e, v]
    constructor
    · intro u
      exact Or.inl ⟨rfl, u.1 rfl⟩
    · intro u
      refine ⟨fun _ => ?_, fun z => absurd z (by decide)⟩
      rcases u with u | u
      · exact u.2
      · exact absurd rfl u.1
  · rw [e]
    constructor
    · intro u
      exact Or.inr ⟨by decide, Or.inl rfl⟩
    · intro u
      exact ⟨fun z => absurd z (by decide), fun z => absurd z (by decide)⟩
theorem af_eq {M : jm} {x g s c z : Int} (h7 : ∀ i : Int, 0 ≤ i → i < 100 → M 647 i = xcv_5 i) (hc : clE M x = c) (hs : M 638 g = s) (hz : M 598 66 = z) (c5 : 0 ≤ c ∧ c ≤ 5) (s10 : 1 ≤ s ∧ s ≤ 10) (z1 : z = 0 ∨ z = 1) : afE M x g = tsB s c z := by
  unfold afE tsB
  rw [hc, hs, hz]
  by_cases u : c = 5
  · rw [if_pos u, if_neg (by omega)]
  · rw [if_neg u, if_pos (by omega), h7 _ (by omega) (by omega)]
theorem io_eq {C R : jm} {t : Nat} {x g c z q n : Int} (h : FL C R t g) (hz : R 598 66 = z) (z1 : z = 0 ∨ z = 1) (hc : c = 2 ∨ c = 4) (hq : sq6 R x = q) (hn : lg6 R x = n) : ioF C t z q n = io6 R x g c := by
  have fz := h.2.1 z (by omega) (by omega)
  have fo := h.2.1 (1 - z) (by omega) (by omega)
  have e1 : 2 * g + 1 - z = 2 * g + (1 - z) := by omega
  have an : (z = 1 ∨ C t 12 ≠ 0) ↔ R 634 (2 * g + (1 - z)) ≠ 0 := by
    rcases z1 with v | v
    · subst v
      rw [h.2.2.1.1]
      exact ⟨fun u => u.resolve_left (by decide), fun u => Or.inr u⟩
    · subst v
      rw [show 2 * g + (1 - 1) = 2 * g by omega, h.2.2.1.2]
      exact ⟨fun _ => by decide, fun _ => Or.inl rfl⟩
  unfold ioF io6
  rw [hz, hq, hn, e1, fz.2.2.1, fz.2.2.2, fo.1.2.2]
  by_cases v : R 632 (2 * g + z) = 0
  · rw [if_pos v, if_pos (Or.inr v)]
  · have e : l6x R (2 * g + z) = R 633 (2 * g + z) := by unfold l6x; exact if_neg v
    rw [e, if_neg v, if_neg (show ¬ ((c ≠ 2 ∧ c ≠ 4) ∨ R 632 (2 * g + z) = 0) by omega)]
    simp only [an]
theorem fp_forget {C R B B6 : jm} {t : Nat} {g : Int} (h : FL C R t g) (a : FGT C B t) (b : FG6 R B6 g (2 * g + 2)) (o : OFG R B6) : FP B B6 t g := by
  obtain ⟨a1, a2, a3, a4⟩ := a
  have b1 := fun s (s0 : 0 ≤ s) (s1 : s < (2 : Int)) => b.1 (2 * g + s) (by omega) (by omega)
  have o' : ∀ (a : Nat) (i : Int), (a < 632 ∨ 637 < a) → B6 a i = R a i := fun a i ha => o a i (by omega) (by omega) (by omega) (by omega) (by omega) (by omega)
  refine ⟨⟨?_, ?_, ?_⟩, fun s s0 s1 => ⟨⟨?_, ?_, ?_⟩, ⟨?_, ?_⟩, ?_, ?_⟩, ?_, ?_⟩
  · rw [a3 1 (by decide), o' 628 g (by decide)]; exact h.1.1
  · rw [a3 2 (by decide), o' 629 g (by decide)]; exact h.1.2.1
  · rw [a3 13 (by decide), o' 640 g (by decide)]; exact h.1.2.2.2.2
  · rw [a4 (t + 1) s (by omega) (by omega) (by omega) (by omega) (by omega) (by omega), o' 630 _ (by decide)]; exact (h.2.1 s s0 s1).1.1
  · rw [a4 (t + 2) s (by omega) (by omega) (by omega) (by omega) (by omega) (by omega), o' 631 _ (by decide)]; exact (h.2.1 s s0 s1).1.2.1
  · rw [(a1 s s0 s1).2.2.1, (b1 s s0 s1).2.2.2.1]
  · rw [(a1 s s0 s1).2.2.2.1, (b1 s s0 s1).2.2.2.2.1]
  · rw [(a1 s s0 s1).2.2.2.2, (b1 s s0 s1).2.2.2.2.2]
  · rw [(a1 s s0 s1).2.1, (b1 s s0 s1).1]
  · unfold l6x
    rw [(a1 s s0 s1).1, (b1 s s0 s1).1, if_pos rfl]
  · rw [a2, (b1 1 (by decide) (by decide)).2.2.1]
  · rw [o' 640 g (by decide), o' 641 g (by decide), o' 642 g (by decide), o' 628 g (by decide), o' 629 g (by decide), a3 14 (by decide), a3 15 (by decide)]
    exact h.2.2.2.1
theorem fp_begin {E E6 B B6 : jm} {t : Nat} {g : Int} (e : EQE E E6) (a : BGN E B t) (b : BF6 E6 B6 g) : FP B (ju B6 598 66 0) t g := by
  obtain ⟨a1, a2, a3, a4⟩ := a
  obtain ⟨b1, b2, b3, b4⟩ := b
  have j : ∀ (c : Nat) (i : Int), c ≠ 598 → ju B6 598 66 0 c i = B6 c i := fun c i hc => ju_c _ _ hc
  have x0 := a2 0 (by decide) (by decide)
  have x1 := a2 1 (by decide) (by decide)
  refine ⟨⟨?_, ?_, ?_⟩, fun s s0 s1 => ?_, ?_, Or.inl ⟨?_, a1.2.2.2.2.2.1⟩⟩
  · rw [a1.2.1, j 628 g (by decide), b1.2.1]; exact e.1.1
  · rw [a1.2.2.1, j 629 g (by decide), b1.2.2.1]; exact e.1.2
  · rw [a1.2.2.2.2.1, j 640 g (by decide), b1.2.2.2.2.2.2.2]
  · have z := a2 s s0 s1
    have y := b2 (2 * g + s) (by omega) (by omega)
    refine ⟨⟨?_, ?_, ?_⟩, ⟨?_, ?_⟩, ?_, ?_⟩
    · rw [j 630 _ (by decide)]
      rcases (show s = 0 ∨ s = 1 by omega) with rfl | rfl
      · rw [x0.1.1, Int.add_zero, b1.2.2.2.1]; exact e.2.1.1
      · rw [x1.1.1, b1.2.2.2.2.1]; exact e.2.1.2
    · rw [j 631 _ (by decide)]
      rcases (show s = 0 ∨ s = 1 by omega) with rfl | rfl
      · rw [x0.1.2, Int.add_zero, b1.2.2.2.2.2.1]; exact e.2.2.1
      · rw [x1.1.2, b1.2.2.2.2.2.2.1]; exact e.2.2.2
    · rw [j 635 _ (by decide), z.2.2.2.1, y.2.2.2.1]
    · rw [j 636 _ (by decide), z.2.2.2.2.1, y.2.2.2.2.1]
    · rw [j 637 _ (by decide), z.2.2.2.2.2, y.2.2.2.2.2]
    · rw [j 632 _ (by decide), z.2.2.1, y.1]
    · unfold l6x
      rw [j 632 _ (by decide), z.2.1, y.1, if_pos rfl]
  · rw [a1.2.2.2.2.2.2, j 634 _ (by decide), (b2 (2 * g + 1) (by omega) (by omega)).2.2.1]
  · rw [j 640 g (by decide)]; exact b1.2.2.2.2.2.2.2
theorem O7.t {R B S : jm} {g : Int} (h : O7 B S g) (e : O7 R B g) : O7 R S g := ⟨fun b j hj hb => (h.1 b j hj hb).trans (e.1 b j hj hb), fun b j hj hb => (h.2 b j hj hb).trans (e.2 b j hj hb)⟩
theorem O7.b {E6 B6 : jm} {g : Int} (b : BF6 E6 B6 g) (o : OBF E6 B6) : O7 E6 (ju B6 598 66 0) g := by
  refine ⟨fun c j hj hc => ?_, fun c j hj hc => ?_⟩
  · rw [ju_c _ _ (by omega)]
    rcases (show c = 627 ∨ c = 628 ∨ c = 629 ∨ c = 640 ∨ (c = 638 ∨ c = 639 ∨ c = 641 ∨ c = 642) by omega) with rfl | rfl | rfl | rfl | hc
    · exact (b.2.2.1 j hj).1
    · exact (b.2.2.1 j hj).2.1
    · exact (b.2.2.1 j hj).2.2.1
    · exact (b.2.2.1 j hj).2.2.2
    · exact o c j (by omega) (by omega) (by omega) (by omega) (by omega) (by omega) (by omega) (by omega) (by omega) (by omega) (by omega) (by omega)
  · rw [ju_c _ _ (by omega)]
    have q := b.2.2.2 j hj
    rcases (show c = 630 ∨ c = 631 ∨ c = 632 ∨ c = 633 ∨ c = 634 ∨ c = 635 ∨ c = 636 ∨ c = 637 by omega) with rfl | rfl | rfl | rfl | rfl | rfl | rfl | rfl
    · exact q.1
    · exact q.2.1
    · exact q.2.2.1
    · exact q.2.2.2.1
    · exact q.2.2.2.2.1
    · exact q.2.2.2.2.2.1
    · exact q.2.2.2.2.2.2.1
    · exact q.2.2.2.2.2.2.2
theorem O7.g {E6 B6 : jm} {g : Int} (b : FG6 E6 B6 g (2 * g + 2)) (o : OFG E6 B6) : O7 E6 B6 g := ⟨fun c j hj hc => o c j (by omega) (by omega) (by omega) (by omega) (by omega) (by omega), fun c j hj hc => b.2 c j (by omega)⟩
theorem O7.r (M : jm) (g : Int) : O7 M M g := ⟨fun _ _ _ _ => rfl, fun _ _ _ _ => rfl⟩
theorem xcv5_z : xcv_5 85 = 0 ∧ xcv_5 95 = 0 ∧ xcv_5 0 = 1 := by decide +kernel
theorem xcv5_r {i : Int} (h0 : 0 ≤ i) (h1 : i < 100) : 0 ≤ xcv_5 i ∧ xcv_5 i ≤ 10 := xcr_5 h0 h1
noncomputable def HIY (P : Prop) : Prop := P
theorem HIY.i {P : Prop} (h : P) : HIY P := h
theorem HIY.e {P : Prop} (h : HIY P) : P := h
theorem op_track {C D R S : jm} {r r2 : Int} (h : RDA C R) (hG : RG1 R) (hI : RI R) {x : Int} (hT : C 0 8 = R 598 2) (h7 : ∀ i : Int, 0 ≤ i → i < 100 → R 647 i = xcv_5 i) (f : FR W_c_PacketWall_track_x C D) (p : ((x < 0 ∨ 23 < x ∨ C (xe 2 x) 1 = -1) ∧ r = -2 ∧ D = C) ∨ (((0 ≤ x ∧ x ≤ 23) ∧ C (xe 2 x) 1 ≠ -1) ∧ ∃ (C_ : Int) (H : jm), HE (rf R x) (C (xe 2 x) 1) C_ ∧ (H 3 4 = 0 ↔ hX (rf R x) (C (xe 2 x) 1) C_ = -1) ∧ FR W_c_Headers_readAll_x C H ∧ PTQ H D (rf R x) (C (xe 2 x) 1) C_ (H 3 4) (C 15 0).toNat (C 0 8) r)) (q : TR6 R S x r2) (hf : ∀ (a : Nat) (i : Int), a ≠ 598 → a ≠ 603 → a ≠ 604 → a ≠ 605 → a ≠ 627 → a ≠ 628 → a ≠ 629 → a ≠ 630 → a ≠ 631 → a ≠ 632 → a ≠ 633 → a ≠ 634 → a ≠ 635 → a ≠ 636 → a ≠ 637 → a ≠ 638 → a ≠ 639 → a ≠ 640 → S a i = R a i) (hk : ∀ (i : Int), i ≠ 6 → i ≠ 10 → i ≠ 11 → i ≠ 12 → i ≠ 59 → i ≠ 60 → i ≠ 61 → i ≠ 62 → i ≠ 63 → i ≠ 64 → i ≠ 65 → i ≠ 66 → S 598 i = R 598 i) : RDA D S ∧ r = r2 := by
  have rest : RDw D S → r = r2 → RDA D S ∧ r = r2 := fun hw e => ⟨⟨((h.1.f f rfl).r (fun i => hf 599 i (nne rfl) (nne rfl) (nne rfl) (nne rfl) (nne rfl) (nne rfl) (nne rfl) (nne rfl) (nne rfl) (nne rfl) (nne rfl) (nne rfl) (nne rfl) (nne rfl) (nne rfl) (nne rfl) (nne rfl) (nne rfl)) (hk 1 (zne rfl) (zne rfl) (zne rfl) (zne rfl) (zne rfl) (zne rfl) (zne rfl) (zne rfl) (zne rfl) (zne rfl) (zne rfl) (zne rfl))), ((h.2.1.f f rfl).r (fun a i _ _ => hf a i (by omega) (by omega) (by omega) (by omega) (by omega) (by omega) (by omega) (by omega) (by omega) (by omega) (by omega) (by omega) (by omega) (by omega) (by omega) (by omega) (by omega) (by omega))), ((h.2.2.1.f f rfl).r (fun i _ _ => (hk i (by omega) (by omega) (by omega) (by omega) (by omega) (by omega) (by omega) (by omega) (by omega) (by omega) (by omega) (by omega)))), ((h.2.2.2.1.f f rfl).r (fun i => hf 622 i (nne rfl) (nne rfl) (nne rfl) (nne rfl) (nne rfl) (nne rfl) (nne rfl) (nne rfl) (nne rfl) (nne rfl) (nne rfl) (nne rfl) (nne rfl) (nne rfl) (nne rfl) (nne rfl) (nne rfl) (nne rfl)) (hk 34 (zne rfl) (zne rfl) (zne rfl) (zne rfl) (zne rfl) (zne rfl) (zne rfl) (zne rfl) (zne rfl) (zne rfl) (zne rfl) (zne rfl))), ((h.2.2.2.2.1.f f rfl).r (fun a i _ _ => hf a i (by omega) (by omega) (by omega) (by omega) (by omega) (by omega) (by omega) (by omega) (by omega) (by omega) (by omega) (by omega) (by omega) (by omega) (by omega) (by omega) (by omega) (by omega))), hw, ((h.2.2.2.2.2.2.f f rfl).r hG hI (fun a i _ _ => hf a i (by omega) (by omega) (by omega) (by omega) (by omega) (by omega) (by omega) (by omega) (by omega) (by omega) (by omega) (by omega) (by omega) (by omega) (by omega) (by omega) (by omega) (by omega)))⟩, e⟩
  by_cases hx : 0 ≤ x ∧ x ≤ 23
  · have hN := (h.2.1 x (by omega) (by omega)).1
    rw [hN] at p
    rcases p with ⟨p0, p1, p2⟩ | ⟨p0, c1, H, p1, p2, p3, p5⟩ <;> rcases q with ⟨q0, q1, q2⟩ | ⟨q0, c2, q1, q2⟩
    · rw [p2, q2]
      exact ⟨h, by omega⟩
    · exact absurd p0 (by omega)
    · exact absurd q0 (by omega)
    · have ec := HE.u p1 q1
      subst ec
      rcases p5 with ⟨a1, a2⟩ | ⟨E, a1, a2⟩
      · have ng := (a1.he p2).2.1 rfl
        rcases q2 with ⟨b0, b1, b2⟩ | ⟨b0, -⟩ | ⟨b0, -⟩
        · exact rest (RDw.ot h.2.2.2.2.2.1 p3 a1.ot b2).1 (by omega)
        · exact absurd b0 ng
        · exact absurd b0 ng
      · have hg := (a1.he p2).1.1 rfl
        have ot := a1.ot
        have nn := a1.in1
        rcases q2 with ⟨b0, -⟩ | ⟨-, b0, E6, b1, b2, b3, b4⟩ | ⟨-, b0, E6, b1, b2, b3, b4⟩
        · exact absurd hg b0
        · rcases nn.2 with ⟨m0, m1, m2⟩ | ⟨m0, m1, m2⟩
          · have w6 := RDw.ot h.2.2.2.2.2.1 p3 ot b1.1
            have v0 : (E 15 0).toNat = (C 15 0).toNat := by rw [w6.2.1]
            have fe := fe_eq w6.1 (eqe m2 b2) 24 0 (by decide) (by decide)
            rw [v0] at fe
            rw [fe] at a2
            rcases a2 with ⟨a3, a4, a5⟩ | ⟨a3, -⟩ | ⟨a3, -⟩
            · refine rest ?_ (a4.trans b4.symm)
              rw [a5]
              exact (RDw.ot h.2.2.2.2.2.1 p3 ot b3).1
            · omega
            · omega
          · exact absurd b0 m0
        · rcases nn.2 with ⟨m0, -⟩ | ⟨m0, m1, m2⟩
          · exact absurd m0 b0
          · have w6 := RDw.ot h.2.2.2.2.2.1 p3 ot b1.1
            have v0 : (E 15 0).toNat = (C 15 0).toNat := by rw [w6.2.1]
            have eq := eqe m2 b2
            have fe := fe_eq w6.1 eq 24 0 (by decide) (by decide)
            have fr := fr_eq w6.1 24 0 (by decide) (by decide)
            have wd := w6.1
            rw [v0] at fe fr
            rw [fe, nn.1.2] at a2
            have hk := hg.2.2.2.2
            have hi := kA_in (f := rf R x) (N := R 600 x) (C := c1) (x := inf (rf R x) (R 600 x) c1 (ntf (rf R x) (R 600 x) c1)) (by omega)
            obtain ⟨t1, t2, t3, t4, t5, t6⟩ := b1
            have tkc : TKC E6 (rf R x) (R 600 x) c1 x (inf (rf R x) (R 600 x) c1 (ntf (rf R x) (R 600 x) c1)) := ⟨t3, hi, b2.2, t4, t5⟩
            have hn6 : E6 598 60 = nxk (kA (rf R x) (R 600 x) c1 (inf (rf R x) (R 600 x) c1 (ntf (rf R x) (R 600 x) c1))) := b2.1.1.2
            have h76 : ∀ i : Int, 0 ≤ i → i < 100 → E6 647 i = xcv_5 i := fun i i0 i1 => (t6 i).trans (h7 i i0 i1)
            have hZ : E6 598 2 = C 0 8 := t2.trans hT.symm
            have may := HIY.i (may_iff tkc hk hn6)
            unfold TRN at b4
            rw [hZ] at b4
            have i01 : ∀ (b : Nat) (j : Int), (b = 632 ∨ b = 634) → 0 ≤ E6 b j ∧ E6 b j ≤ 1 := fun b j hb => by
              rw [t1 b j (by omega) (by omega)]
              rcases hb with rfl | rfl
              · have q := hI 632 j (Nat.le_of_ble_eq_true rfl)
                rw [xri_row rfl rfl] at q
                exact q
              · have q := hI 634 j (Nat.le_of_ble_eq_true rfl)
                rw [xri_row rfl rfl] at q
                exact q
            have one : ∀ g : Int, 0 ≤ g → g < 24 → fr7 E D (xe (C 15 0).toNat g) → O7 E6 S g → FR1 D S (xe (C 15 0).toNat g) g → RDw D S := fun g g0 g1 hd ho hn => by
              have a := xfl (V := C 15 0) h.2.2.2.2.2.1.1.1 (i := g) ⟨g0, g1⟩
              refine RDw.one wd (x := g) ⟨g0, g1⟩ (hd 15 0 (by omega)) (hd 15 1 (by omega)) (fun b k _ _ hb => hd b k ?_) ho ?_
              · rw [v0] at hb
                exact hb
              · rw [v0]
                exact hn
            rcases a2 with ⟨a3, -⟩ | ⟨a3, a4, a5⟩ | ⟨a3, a4, q', a5, a6⟩
            · omega
            · -- no flow has these ends
              rcases b4 with ⟨-, b5⟩ | ⟨b5, -⟩
              · unfold BEQ at a5
                rw [fr, eq.1.2, may.e] at a5
                rcases a5 with ⟨a5, a6, a7⟩ | ⟨a5, a6, a7, a8⟩ | ⟨a5, a6, a7, B, q', a8, a9⟩
                · rcases b5 with ⟨b5, b6, b7⟩ | ⟨b5, -⟩ | ⟨b5, -⟩
                  · refine rest ?_ (by omega)
                    rw [a7, b7]
                    exact wd
                  · exact absurd b5 a5
                  · exact absurd b5 a5
                · rcases b5 with ⟨b5, -⟩ | ⟨b5, b6, b7, b8⟩ | ⟨b5, b6, -⟩
                  · exact absurd a5 b5
                  · refine rest ?_ (by omega)
                    rw [a8, b8]
                    exact wd
                  · exact absurd a6 b6
                · rcases b5 with ⟨b5, -⟩ | ⟨b5, b6, -⟩ | ⟨b5, b6, b7, B6, b8, b9, b10⟩
                  · exact absurd a5 b5
                  · exact absurd b6 a6
                  · have er : r = r2 := a7.trans b7.symm
                    subst er
                    have rr := (frF_r E (C 15 0).toNat 24 0 (by decide))
                    rw [fr, ← a7] at rr
                    have rg := rr.resolve_left (by omega)
                    have fp := fp_begin eq a8 b8
                    have st5 := a8.1.2.2.2.1
                    have st2 := a8.1.2.2.1
                    have n9 : ju B6 598 66 0 629 r = E6 598 60 := (ju_c _ _ (by decide)).trans b8.1.2.2.1
                    have zz : ∀ (b : Nat), (b = 632 ∨ b = 634) → ∀ s : Int, 0 ≤ s → s < 2 → ju B6 598 66 0 b (2 * r + s) = 0 := fun b hb s s0 s1 => by
                      rw [ju_c _ _ (by omega)]
                      have q := b8.2.1 (2 * r + s) (by omega) (by omega)
                      rcases hb with rfl | rfl
                      · exact q.1
                      · exact q.2.2.1
                    have z2 := zz 632 (Or.inl rfl) 0 (by decide) (by decide)
                    have z4 := zz 634 (Or.inr rfl) 1 (by decide) (by decide)
                    have b60 : ju B6 598 66 0 600 x = R 600 x := by
                      rw [ju_c _ _ (by decide), b9 600 x (by decide) (by decide) (by decide) (by decide) (by decide) (by decide) (by decide) (by decide) (by decide) (by decide) (by decide) (by decide)]
                      exact t5
                    have frB : fr7 E B (xe (C 15 0).toNat r) := fun b k hb => a8.2.2.2 b k (by omega) (by omega) (by omega) (by omega) (by omega) (by omega) (by omega) (by omega)
                    have oB := O7.b b8 b9
                    have fin : FL D S (xe (C 15 0).toNat r) r ∧ D (xe (C 15 0).toNat r) 0 = B (xe (C 15 0).toNat r) 0 ∧ S 627 r = ju B6 598 66 0 627 r ∧ fr7 B D (xe (C 15 0).toNat r) ∧ O7 (ju B6 598 66 0) S r := by
                      rcases nxk_r hk with ⟨k, e⟩ | ⟨k, e⟩ | ⟨k, e⟩
                      · rw [hn6, e] at b10 n9
                        rcases a9 with ⟨a9, -⟩ | ⟨a9, a10, a11⟩
                        · rw [st2, eq.1.2, hn6, e] at a9
                          exact absurd a9 (by decide)
                        · exact fin1 fp (Or.inl rfl) (Or.inl rfl) n9 (Or.inl rfl) (by omega) a11 (by rw [st5, eq.1.2, hn6, e, if_neg (by omega), if_neg (by omega)]) b10 b60 (by unfold stOK; rw [if_neg (by decide)]; omega)
                      · rw [hn6, e] at b10 n9
                        rcases a9 with ⟨a9, B1, q2', a10, a11⟩ | ⟨a9, -⟩
                        · have ts : tsS (rf R x) (R 600 x) c1 (inf (rf R x) (R 600 x) c1 (ntf (rf R x) (R 600 x) c1)) = 0 := by
                            have m := may.e.2 a5
                            exact m.1 (by rw [hn6, e])
                          have tb : tsB (B (xe (C 15 0).toNat r) 5) (tsS (rf R x) (R 600 x) c1 (inf (rf R x) (R 600 x) c1 (ntf (rf R x) (R 600 x) c1))) 0 = 1 := by
                            rw [st5, eq.1.2, hn6, e, ts, if_pos rfl]
                            unfold tsB
                            rw [if_pos (by decide)]
                            exact xcv5_z.2.2
                          unfold TSQ at a10
                          rw [tb, ts] at a10
                          rcases a10 with ⟨a10, -⟩ | ⟨-, a10, -⟩ | ⟨-, -, a12, Bx, a13, a14⟩
                          · exact absurd a10 (by decide)
                          · omega
                          · have bx : Bx = B := by
                              rcases a13 with a13 | a13
                              · have := a13.1.2
                                rw [st5, eq.1.2, hn6, e, if_pos rfl] at this
                                omega
                              · exact a13.2
                            rw [bx] at a14
                            have dd : D = tiM B1 (xe (C 15 0).toNat r) 0 (C 0 8) (R 600 x) := by
                              rcases a11 with a11 | a11
                              · omega
                              · exact a11.2.2
                            rw [a14] at dd
                            rw [if_pos rfl] at b10
                            have tk2 : TKC (K6 (ju B6 598 66 0) r 6 (C 0 8) 1) (rf R x) (R 600 x) c1 x (inf (rf R x) (R 600 x) c1 (ntf (rf R x) (R 600 x) c1)) := tkc.e (fun b i h0 h1 => by rw [k6_f.2.2 b i (by omega), ju_c _ _ (by omega)]; exact b9 b i (by omega) (by omega) (by omega) (by omega) (by omega) (by omega) (by omega) (by omega) (by omega) (by omega) (by omega) (by omega)) (by rw [k6_f.2.2 598 6 (by omega), ju_i _ _ (zne (by decide))]; exact b9 598 6 (by decide) (by decide) (by decide) (by decide) (by decide) (by decide) (by decide) (by decide) (by decide) (by decide) (by decide) (by decide)) (by rw [k6_f.2.2 598 65 (by omega), ju_i _ _ (zne (by decide))]; exact b9 598 65 (by decide) (by decide) (by decide) (by decide) (by decide) (by decide) (by decide) (by decide) (by decide) (by decide) (by decide) (by decide))
                            have vv := tk2.v k
                            exact fin6 fp (Or.inl rfl) (Or.inl rfl) n9 (by omega) (by omega) dd b10 (by unfold ctE; rw [vv.2.2.1, vv.2.1]) vv.2.2.2 b60 (by decide)
                        · rw [st2, eq.1.2, hn6, e] at a9
                          exact absurd rfl a9
                      · rw [hn6, e] at b10 n9
                        rcases a9 with ⟨a9, -⟩ | ⟨a9, a10, a11⟩
                        · rw [st2, eq.1.2, hn6, e] at a9
                          exact absurd a9 (by decide)
                        · exact fin1 fp (Or.inl rfl) (Or.inl rfl) n9 (Or.inr rfl) (by omega) a11 (by rw [st5, eq.1.2, hn6, e, if_neg (by omega), if_neg (by omega)]) b10 b60 (by unfold stOK; rw [if_neg (by decide)]; omega)
                    obtain ⟨g1, g2, g3, g4, g5⟩ := fin
                    refine rest (one r (by omega) (by omega) (fun b k hb => (g4 b k hb).trans (frB b k hb)) (g5.t oB) ⟨?_, fun _ => g1⟩) rfl
                    rw [g2, g3, ju_c _ _ (by decide), a8.1.1, b8.1.1]
              · exact absurd a4 b5
            · -- the packet is of a flow
              rcases b4 with ⟨b5, -⟩ | ⟨-, b5⟩
              · exact absurd b5 a4
              · have rr := (fe6_r E6 24 0 (by decide)).resolve_left a4
                have s6 := (sd6_r E6 (fe6 E6 24 0)).resolve_left rr.2
                have w0 := wd.2 (fe6 E6 24 0) (by omega) (by omega)
                have fl := w0.2 s6.1.1
                have sd := sd_eq wd eq (f := fe6 E6 24 0) (by omega) (by omega)
                rw [v0] at fl sd w0
                have w0h := HIY.i w0
                clear w0
                have sz := b3.resolve_left a4
                rw [sd, ← sz] at a5
                have z1 : E6 598 66 = 0 ∨ E6 598 66 = 1 := by rw [sz]; exact s6.2
                have nx : E (xe (C 15 0).toNat (fe6 E6 24 0)) 2 = E6 598 60 := fl.1.2.1.trans s6.1.2
                have s634 : HIY (E6 598 66 = 0 ∨ E6 634 (2 * fe6 E6 24 0) = 1) := HIY.i (Or.inr fl.2.2.1.2)
                have ok := fl.2.2.2.2
                rw [s6.1.2] at ok
                have i634 := i01 634 (2 * fe6 E6 24 0 + 1) (Or.inr rfl)
                have done : ∀ g : Int, g = fe6 E6 24 0 → FL D S (xe (C 15 0).toNat g) g ∧ D (xe (C 15 0).toNat g) 0 = E (xe (C 15 0).toNat g) 0 ∧ S 627 g = E6 627 g ∧ fr7 E D (xe (C 15 0).toNat g) ∧ O7 E6 S g → RDw D S := fun g eg hh => one g (by omega) (by omega) hh.2.2.2.1 hh.2.2.2.2 ⟨by rw [hh.2.1, hh.2.2.1, eg]; exact w0h.e.1, fun _ => hh.1⟩
                rcases nxk_r hk with ⟨k, e⟩ | ⟨k, e⟩ | ⟨k, e⟩
                · have n1 : E6 598 60 = 1 := hn6.trans e
                  rcases b5 with ⟨b5, -⟩ | ⟨b5, -⟩ | ⟨b5, -⟩ | ⟨b5, b6, b7⟩
                  · omega
                  · omega
                  · omega
                  · rcases a5 with ⟨a7, -⟩ | ⟨a7, a8, a9⟩
                    · omega
                    · rw [a8, if_pos rfl] at a6
                      rw [n1] at b7 nx ok
                      rw [b6] at b7
                      have u7 : u7E E6 (fe6 E6 24 0) = (if E (xe (C 15 0).toNat (fe6 E6 24 0)) 2 = 17 ∧ E6 598 66 = 1 then 1 else E (xe (C 15 0).toNat (fe6 E6 24 0)) 5) := by
                        unfold u7E
                        rw [n1, nx, if_neg (by omega), if_neg (by omega), fl.1.2.2.1]
                        unfold stOK at ok
                        omega
                      refine rest (done _ rfl (fin1 fl.p z1 s634.e (s6.1.2.trans n1) (Or.inl rfl) i634 a9 u7 b7 t5 ?_)) (by omega)
                      rw [u7, nx, if_neg (by omega), fl.1.2.2.1]
                      exact ok
                · have n6 : E6 598 60 = 6 := hn6.trans e
                  have vv := tkc.v k
                  have s10 : 1 ≤ E6 638 (fe6 E6 24 0) ∧ E6 638 (fe6 E6 24 0) ≤ 10 := by
                    rw [n6] at ok
                    unfold stOK at ok
                    omega
                  have c5 : 0 ≤ clE E6 x ∧ clE E6 x ≤ 5 := scf_r _
                  have af := af_eq (g := fe6 E6 24 0) h76 rfl rfl rfl c5 s10 z1
                  have t5e : E (xe (C 15 0).toNat (fe6 E6 24 0)) 5 = E6 638 (fe6 E6 24 0) := fl.1.2.2.1
                  rcases a5 with ⟨a7, B1, q2', a8, a9⟩ | ⟨a7, -⟩
                  · unfold TSQ at a8
                    rw [t5e, ← vv.1, ← af, ← vv.2.1, ← vv.2.2.1] at a8
                    have iob : HIY ((clE E6 x = 2 ∨ clE E6 x = 4) → ioF E (xe (C 15 0).toNat (fe6 E6 24 0)) (E6 598 66) (sq6 E6 x) (lg6 E6 x) = io6 E6 x (fe6 E6 24 0) (clE E6 x)) := HIY.i (fun u => io_eq fl rfl z1 u rfl rfl)
                    rcases a8 with ⟨a10, a11, a12⟩ | ⟨a10, a11, a12, a13⟩ | ⟨a10, a11, a12, Bx, a13, a14⟩
                    · rcases b5 with ⟨-, b6, b7, b8⟩ | ⟨-, b6, -⟩ | ⟨-, b6, -⟩ | ⟨b6, -⟩
                      · have dd : r = -7 ∧ D = B1 := by
                          rcases a9 with a9 | a9
                          · rw [if_neg (by omega)] at a6
                            exact ⟨by omega, a9.2.2⟩
                          · omega
                        refine rest ?_ (by omega)
                        rw [dd.2, a12, b8]
                        exact wd
                      · exact absurd a10 b6
                      · exact absurd a10 b6
                      · exact absurd n6 b6
                    · rcases b5 with ⟨-, b6, -⟩ | ⟨-, b6, b7, b8, b9⟩ | ⟨-, b6, b7, -⟩ | ⟨b6, -⟩
                      · exact absurd b6 a10
                      · have dd : r = -8 ∧ D = B1 := by
                          rcases a9 with a9 | a9
                          · rw [if_neg (by omega)] at a6
                            exact ⟨by omega, a9.2.2⟩
                          · omega
                        refine rest ?_ (by omega)
                        rw [dd.2, a13, b9]
                        exact wd
                      · exact absurd ((iob.e a11.1).symm.trans a11.2) b7
                      · exact absurd n6 b6
                    · rcases b5 with ⟨-, b6, -⟩ | ⟨-, b6, b7, -⟩ | ⟨-, b6, b7, b8, B6, b9, b10⟩ | ⟨b6, -⟩
                      · exact absurd b6 a10
                      · exfalso
                        by_cases u : clE E6 x = 2 ∨ clE E6 x = 4
                        · exact a11 ⟨u, (iob.e u).trans b7⟩
                        · rw [io6_0 (Or.inl (by omega))] at b7
                          exact absurd b7 (by decide)
                      · subst b8
                        have dd : r = fe6 E6 24 0 ∧ D = tiM B1 (xe (C 15 0).toNat (fe6 E6 24 0)) (E6 598 66) (C 0 8) (R 600 x) := by
                          rcases a9 with a9 | a9
                          · omega
                          · rw [a9.2.1, if_pos rfl] at a6
                            exact ⟨a6, a9.2.2⟩
                        have bb : 1 ≤ afE E6 x (fe6 E6 24 0) ∧ afE E6 x (fe6 E6 24 0) ≤ 10 := by
                          rw [af] at a10 ⊢
                          unfold tsB at a10 ⊢
                          by_cases u : clE E6 x < 5 ∧ 1 ≤ E6 638 (fe6 E6 24 0) ∧ E6 638 (fe6 E6 24 0) ≤ 10
                          · rw [if_pos u] at a10 ⊢
                            have := xcv5_r (i := 10 * (E6 638 (fe6 E6 24 0) - 1) + 5 * E6 598 66 + clE E6 x) (by omega) (by omega)
                            omega
                          · rw [if_neg u] at a10
                            exact absurd rfl a10
                        have s0f : HIY (clE E6 x = 0 → 9 ≤ E6 638 (fe6 E6 24 0) → E6 598 66 = 0) := HIY.i fun u v => by
                          rcases z1 with y | y
                          · exact y
                          · exfalso
                            rw [af] at a10
                            apply a10
                            unfold tsB
                            rw [if_pos (by omega), u, y]
                            rcases (show E6 638 (fe6 E6 24 0) = 9 ∨ E6 638 (fe6 E6 24 0) = 10 by omega) with y2 | y2
                            · rw [y2]; exact xcv5_z.1
                            · rw [y2]; exact xcv5_z.2.1
                        have fpx : FP Bx B6 (xe (C 15 0).toNat (fe6 E6 24 0)) (fe6 E6 24 0) ∧ fr7 E Bx (xe (C 15 0).toNat (fe6 E6 24 0)) ∧ O7 E6 B6 (fe6 E6 24 0) ∧ Bx (xe (C 15 0).toNat (fe6 E6 24 0)) 0 = E (xe (C 15 0).toNat (fe6 E6 24 0)) 0 ∧ (∀ (b : Nat) (i : Int), (b < 632 ∨ 637 < b) → B6 b i = E6 b i) ∧ (E6 598 66 = 0 ∨ B6 634 (2 * fe6 E6 24 0) = 1) ∧ (0 ≤ B6 632 (2 * fe6 E6 24 0 + E6 598 66) ∧ B6 632 (2 * fe6 E6 24 0 + E6 598 66) ≤ 1) ∧ (0 ≤ B6 634 (2 * fe6 E6 24 0 + 1) ∧ B6 634 (2 * fe6 E6 24 0 + 1) ≤ 1) := by
                          rcases a13 with ⟨u, a13⟩ | ⟨u, a13⟩
                          · rcases b9 with ⟨v, b9, b11⟩ | ⟨v, b9⟩
                            · have q := b9.1 (2 * fe6 E6 24 0 + E6 598 66) (by omega) (by omega)
                              have q1 := b9.1 (2 * fe6 E6 24 0 + 1) (by omega) (by omega)
                              exact ⟨fp_forget fl a13 b9 b11, fun b k hb => a13.2.2.2 b k (by omega) (by omega) (by omega) (by omega) (by omega) (by omega), O7.g b9 b11, a13.2.2.1 0 (by decide), fun b i hb => b11 b i (by omega) (by omega) (by omega) (by omega) (by omega) (by omega), Or.inl v.2.1, by omega, by omega⟩
                            · exact absurd ⟨u.2, s0f.e u.1 u.2, u.1⟩ v
                          · rcases b9 with ⟨v, -⟩ | ⟨v, b9⟩
                            · exact absurd ⟨v.2.2, v.1⟩ u
                            · rw [a13, b9]
                              exact ⟨fl.p, fun _ _ _ => rfl, O7.r _ _, rfl, fun _ _ _ => rfl, s634.e, i01 632 _ (Or.inl rfl), i634⟩
                        obtain ⟨g1, g2, g3, g4, g5, g6, g7, g8⟩ := fpx
                        rw [n6] at b10
                        have tk2 : TKC (K6 B6 (fe6 E6 24 0) 6 (C 0 8) (afE E6 x (fe6 E6 24 0))) (rf R x) (R 600 x) c1 x (inf (rf R x) (R 600 x) c1 (ntf (rf R x) (R 600 x) c1)) := tkc.e (fun b i h0 h1 => by rw [k6_f.2.2 b i (by omega)]; exact g5 b i (by omega)) (by rw [k6_f.2.2 598 6 (by omega)]; exact g5 598 6 (by decide)) (by rw [k6_f.2.2 598 65 (by omega)]; exact g5 598 65 (by decide))
                        have v2 := tk2.v k
                        have d2 := dd.2
                        rw [a14] at d2
                        have ff := fin6 g1 z1 g6 ((g5 629 _ (by decide)).trans (s6.1.2.trans n6)) g7 g8 d2 b10 (by unfold ctE; rw [v2.2.2.1, v2.2.1, vv.2.2.1, vv.2.1]) v2.2.2.2 ((g5 600 x (by decide)).trans t5) bb
                        refine rest (done _ rfl ⟨ff.1, ff.2.1.trans g4, ff.2.2.1.trans (g5 627 _ (by decide)), fun b k hb => (ff.2.2.2.1 b k hb).trans (g2 b k hb), ff.2.2.2.2.t g3⟩) (by omega)
                      · exact absurd n6 b6
                  · exact absurd (nx.trans n6) a7
                · have n1 : E6 598 60 = 17 := hn6.trans e
                  rcases b5 with ⟨b5, -⟩ | ⟨b5, -⟩ | ⟨b5, -⟩ | ⟨b5, b6, b7⟩
                  · omega
                  · omega
                  · omega
                  · rcases a5 with ⟨a7, -⟩ | ⟨a7, a8, a9⟩
                    · omega
                    · rw [a8, if_pos rfl] at a6
                      rw [n1] at b7 nx ok
                      rw [b6] at b7
                      have lo : 0 ≤ E6 638 (fe6 E6 24 0) := by
                        rw [t1 638 _ (by decide) (by decide)]
                        have q := hI 638 (fe6 E6 24 0) (Nat.le_of_ble_eq_true rfl)
                        rw [xri_row rfl rfl] at q
                        exact q.1
                      have u7 : u7E E6 (fe6 E6 24 0) = (if E (xe (C 15 0).toNat (fe6 E6 24 0)) 2 = 17 ∧ E6 598 66 = 1 then 1 else E (xe (C 15 0).toNat (fe6 E6 24 0)) 5) := by
                        unfold u7E
                        rw [n1, nx, fl.1.2.2.1]
                        unfold stOK at ok
                        (repeat' split) <;> omega
                      refine rest (done _ rfl (fin1 fl.p z1 s634.e (s6.1.2.trans n1) (Or.inr rfl) i634 a9 u7 b7 t5 ?_)) (by omega)
                      rw [u7, nx, fl.1.2.2.1]
                      unfold stOK at ok ⊢
                      split <;> omega
  · rcases p with ⟨p0, p1, p2⟩ | ⟨p0, -⟩
    · rcases q with ⟨q0, q1, q2⟩ | ⟨q0, -⟩
      · rw [p2, q2]
        exact ⟨h, by omega⟩
      · exact absurd q0.1 hx
    · exact absurd p0.1 hx
end
section
/-! ===== gatherings on both sides ===== -/
theorem gS_p (M : jm) : ∀ (n : Nat) (i : Int), 0 ≤ i → (gS M n i = -1 ∧ ∀ j : Int, i ≤ j → j < i + n → ¬ (M (xe 10 j) 0 ≠ 0 ∧ (M (xe 10 j) 1 = M 11 1 ∧ M (xe 10 j) 2 = M 11 2 ∧ M (xe 10 j) 3 = M 11 3 ∧ M (xe 10 j) 4 = M 11 4 ∧ M (xe 10 j) 5 = M 11 5))) ∨ ((i ≤ gS M n i ∧ gS M n i < i + n) ∧ (M (xe 10 (gS M n i)) 0 ≠ 0 ∧ (M (xe 10 (gS M n i)) 1 = M 11 1 ∧ M (xe 10 (gS M n i)) 2 = M 11 2 ∧ M (xe 10 (gS M n i)) 3 = M 11 3 ∧ M (xe 10 (gS M n i)) 4 = M 11 4 ∧ M (xe 10 (gS M n i)) 5 = M 11 5))) := by
  intro n
  induction n with
  | zero => intro i _; exact Or.inl ⟨rfl, fun j h0 h1 => absurd h1 (by omega)⟩
  | succ n ih =>
    intro i hi
    unfold gS
    by_cases c : (M (xe 10 i) 0 ≠ 0 ∧ (M (xe 10 i) 1 = M 11 1 ∧ M (xe 10 i) 2 = M 11 2 ∧ M (xe 10 i) 3 = M 11 3 ∧ M (xe 10 i) 4 = M 11 4 ∧ M (xe 10 i) 5 = M 11 5))
    · rw [if_pos c]
      exact Or.inr ⟨⟨by omega, by omega⟩, c⟩
    · rw [if_neg c]
      rcases ih (i + 1) (by omega) with ⟨a, b⟩ | ⟨a, b⟩
      · refine Or.inl ⟨a, fun j h0 h1 => ?_⟩
        by_cases e : j = i
        · rw [e]; exact c
        · exact b j (by omega) (by omega)
      · exact Or.inr ⟨⟨by omega, by omega⟩, b⟩
theorem gL_p (M : jm) (k a b c o : Int) : ∀ n : Nat, (gL M k a b c o n = -1 ∧ ∀ j : Int, 0 ≤ j → j < n → ¬ (M 606 j ≠ 0 ∧ M 607 j = k ∧ M 608 j = a ∧ M 609 j = b ∧ M 610 j = c ∧ M 611 j = o)) ∨ ((0 ≤ gL M k a b c o n ∧ gL M k a b c o n < n) ∧ (M 606 (gL M k a b c o n) ≠ 0 ∧ M 607 (gL M k a b c o n) = k ∧ M 608 (gL M k a b c o n) = a ∧ M 609 (gL M k a b c o n) = b ∧ M 610 (gL M k a b c o n) = c ∧ M 611 (gL M k a b c o n) = o)) := by
  intro n
  induction n with
  | zero => exact Or.inl ⟨rfl, fun j h0 h1 => absurd h1 (by omega)⟩
  | succ n ih =>
    unfold gL
    by_cases q : (M 606 (n : Int) ≠ 0 ∧ M 607 (n : Int) = k ∧ M 608 (n : Int) = a ∧ M 609 (n : Int) = b ∧ M 610 (n : Int) = c ∧ M 611 (n : Int) = o)
    · rw [if_pos q]
      exact Or.inr ⟨⟨by omega, by omega⟩, q⟩
    · rw [if_neg q]
      rcases ih with ⟨u, v⟩ | ⟨u, v⟩
      · refine Or.inl ⟨u, fun j h0 h1 => ?_⟩
        by_cases e : j = n
        · rw [e]; exact q
        · exact v j h0 (by omega)
      · exact Or.inr ⟨⟨by omega, by omega⟩, v⟩
/-- the gathering that a piece belongs to -/
theorem ga_s {C R : jm} {k a b c o : Int} (h : RDg C R) (n1 : C 11 1 = k) (n2 : C 11 2 = a) (n3 : C 11 3 = b) (n4 : C 11 4 = c) (n5 : C 11 5 = o) : gS C 8 0 = gL R k a b c o 8 := by
  have e : ∀ j : Int, 0 ≤ j → j < 8 → ((C (xe 10 j) 0 ≠ 0 ∧ (C (xe 10 j) 1 = C 11 1 ∧ C (xe 10 j) 2 = C 11 2 ∧ C (xe 10 j) 3 = C 11 3 ∧ C (xe 10 j) 4 = C 11 4 ∧ C (xe 10 j) 5 = C 11 5)) ↔ (R 606 j ≠ 0 ∧ R 607 j = k ∧ R 608 j = a ∧ R 609 j = b ∧ R 610 j = c ∧ R 611 j = o)) := fun j j0 j1 => by
    have q := h.2 j j0 j1
    rw [q.1, n1, n2, n3, n4, n5]
    by_cases u : R 606 j = 0
    · exact ⟨fun v => absurd u v.1, fun v => absurd u v.1⟩
    · have w := (q.2 u).1
      rw [w.1, w.2.1, w.2.2.1, w.2.2.2.1, w.2.2.2.2.1]
  rcases gS_p C 8 0 (by decide) with ⟨a1, a2⟩ | ⟨a1, a2⟩ <;> rcases gL_p R k a b c o 8 with ⟨b1, b2⟩ | ⟨b1, b2⟩
  · rw [a1, b1]
  · exact absurd ((e _ b1.1 (by omega)).2 b2) (a2 _ b1.1 (by omega))
  · exact absurd ((e _ a1.1 (by omega)).1 a2) (b2 _ a1.1 (by omega))
  · have a3 := (e _ a1.1 (by omega)).1 a2
    refine h.1 _ _ a1.1 (by omega) b1.1 (by omega) a3.1 b2.1 ?_
    rw [a3.2.1, a3.2.2.1, a3.2.2.2.1, a3.2.2.2.2.1, a3.2.2.2.2.2, b2.2.1, b2.2.2.1, b2.2.2.2.1, b2.2.2.2.2.1, b2.2.2.2.2.2]
    exact ⟨rfl, rfl, rfl, rfl, rfl⟩
theorem ga_e {C R : jm} (h : RDg C R) : ∀ (n : Nat) (i : Int), 0 ≤ i → i + n ≤ 8 → gF C n i = gE R n i := by
  intro n
  induction n with
  | zero => intro i _ _; rfl
  | succ n ih =>
    intro i h0 h1
    unfold gF gE
    rw [(h.2 i h0 (by omega)).1, ih (i + 1) (by omega) (by omega)]
theorem gE_r (R : jm) : ∀ (n : Nat) (i : Int), 0 ≤ i → gE R n i = -1 ∨ ((i ≤ gE R n i ∧ gE R n i < i + n) ∧ R 606 (gE R n i) = 0) := by
  intro n
  induction n with
  | zero => intro i _; exact Or.inl rfl
  | succ n ih =>
    intro i hi
    unfold gE
    by_cases c : R 606 i = 0
    · rw [if_pos c]
      exact Or.inr ⟨⟨by omega, by omega⟩, c⟩
    · rw [if_neg c]
      rcases ih (i + 1) (by omega) with a | a
      · exact Or.inl a
      · exact Or.inr ⟨⟨by omega, by omega⟩, a.2⟩
theorem ga_p {C R : jm} (h : RDp C R) : ∀ (n : Nat) (i : Int), 0 ≤ i → i + n ≤ 24 → pF C n i = pG R n i := by
  intro n
  induction n with
  | zero => intro i _ _; rfl
  | succ n ih =>
    intro i h0 h1
    unfold pF pG
    rw [(h i h0 (by omega)).1, ih (i + 1) (by omega) (by omega)]
theorem RDg.n {C D R : jm} (h : RDg C R) (n : NH C D) : RDg D R := by
  refine ⟨h.1, fun g g0 g1 => ?_⟩
  have k := kGa g0 g1
  have x := xgx (g := g) ⟨g0, g1⟩
  have k1 := (kf_15_9 k).2
  have k2 := (kf_15_10 k).2
  have e0 : ∀ i : Int, D (xe 10 g) i = C (xe 10 g) i := fun i => n _ i (by rw [k]; decide) (by omega)
  have e1 : ∀ i : Int, D (xe 10 g + 1) i = C (xe 10 g + 1) i := fun i => n _ i (by rw [k1]; decide) (by omega)
  have e2 : ∀ i : Int, D (xe 10 g + 2) i = C (xe 10 g + 2) i := fun i => n _ i (by rw [k2]; decide) (by omega)
  have q := h.2 g g0 g1
  exact ⟨by rw [e0]; exact q.1, fun u => (q.2 u).e (fun i _ => e0 i) e1 e2⟩
theorem szf_x (w K : Int) : (if szf w ≤ szf K then szf K else szf w) = szf (if K ≤ w then w else K) := by
  unfold szf
  (repeat' split) <;> omega
theorem rbf_n (K : Int) : rbf (-1) K = szf K := by
  unfold rbf szf
  rw [if_neg (by decide)]
theorem rbf_p {w K : Int} (h : w ≠ -1) : rbf w K = w := if_pos h
theorem lpf_p {w : Int} (h : 0 ≤ w ∧ w ≤ 360) : lpf w = w := by
  unfold lpf
  rw [if_neg (by omega), if_pos h.2]
/-- the whole is told, or the row grows -/
theorem ga_w {T Rb Rw : jm} {G : Nat} {g i : Int} {f : Int → Int} {N C h : Int} (hw : Rb 614 g = T G 7) (hs : Rb 613 g = rbf (T G 7) (T G 8)) (hr : T G 7 = -1 ∨ (0 ≤ T G 7 ∧ T G 7 ≤ 360)) (ho : 0 ≤ ofs f N C h) (hc : 1 ≤ N - enf f N C h) (hi : (i = 1 ∧ mrf f N C h ≠ 1 ∧ T G 7 = -1) ∨ (i = 0 ∧ ¬ (mrf f N C h ≠ 1 ∧ T G 7 = -1))) (h3 : mrf f N C h ≠ 1 → T G 7 = -1 → ofs f N C h + (N - enf f N C h) ≤ 360) (W : WH6 Rb Rw g i (ofs f N C h + (N - enf f N C h))) : (Rw 614 g = wh1 f N C h (T G 7) ∧ Rw 613 g = rbf (wh1 f N C h (T G 7)) (cm1 f N C h (T G 8))) ∧ (wh1 f N C h (T G 7) = -1 ∨ (0 ≤ wh1 f N C h (T G 7) ∧ wh1 f N C h (T G 7) ≤ 360)) ∧ lpf (wh1 f N C h (T G 7)) ≤ lpf (T G 7) ∧ (∀ k : Int, 0 ≤ k → k < lpf (wh1 f N C h (T G 7)) → wR Rw g k = wR Rb g k) ∧ (∀ (b : Nat) (j : Int), b ≠ 613 → b ≠ 614 → b ≠ 616 → Rw b j = Rb b j) ∧ (∀ j : Int, j ≠ g → Rw 613 j = Rb 613 j ∧ Rw 614 j = Rb 614 j) ∧ ∀ j : Int, (j < 360 * g ∨ 360 * g + 360 ≤ j) → Rw 616 j = Rb 616 j := by
  rcases hi with ⟨i1, m1, w1⟩ | ⟨i0, n0⟩
  · have l3 := h3 m1 w1
    have e : wh1 f N C h (T G 7) = ofs f N C h + (N - enf f N C h) := if_pos ⟨w1, m1⟩
    rw [e, lpf_p (by omega), rbf_p (by omega)]
    rcases W with ⟨-, a1, a2, a3, a4⟩ | ⟨u, -⟩ | ⟨u, -⟩
    · refine ⟨a1, Or.inr (by omega), ?_, fun k k0 k1 => ?_, fun b j h1 h2 h3 => a4 b j h1 h2 h3, fun j hj => ⟨(a2 j hj).2, (a2 j hj).1⟩, fun j hj => a3 j (by omega)⟩
      · rw [w1]
        unfold lpf
        rw [if_pos rfl]
        exact l3
      · unfold wR
        rw [a4 615 _ (by decide) (by decide) (by decide), a3 _ (by omega)]
    · omega
    · omega
  · have e : wh1 f N C h (T G 7) = T G 7 := if_neg (fun u => n0 ⟨u.2, u.1⟩)
    rw [e]
    rcases W with ⟨u, -⟩ | ⟨-, a1, a2, a3, a4⟩ | ⟨-, a1, a2⟩
    · omega
    · rw [hw] at a1
      rw [hs, a1, rbf_n, szf_x] at a2
      refine ⟨⟨(a4 614 g (by decide)).trans hw, ?_⟩, hr, Int.le_refl _, fun k k0 k1 => ?_, fun b j h1 _ _ => a4 b j h1, fun j hj => ⟨a3 j hj, a4 614 j (by decide)⟩, fun j _ => a4 616 j (by decide)⟩
      · rw [a2, a1, rbf_n]
        rfl
      · unfold wR
        rw [a4 615 _ (by decide), a4 616 _ (by decide)]
    · subst a2
      rw [hw] at a1
      refine ⟨⟨hw, ?_⟩, hr, Int.le_refl _, fun _ _ _ => rfl, fun _ _ _ _ _ => rfl, fun _ _ => ⟨rfl, rfl⟩, fun _ _ => rfl⟩
      rw [hs, rbf_p a1, rbf_p a1]
theorem glay_e {w v f f2 : Int → Int} {s e m k : Int} (h : w k = v k) (hf : f = f2) : glay w f s e m k = glay v f2 s e m k := by
  unfold glay
  rw [h, hf]
theorem gov_e {w v : Int → Int} {s : Int} : ∀ n : Nat, (∀ k : Int, s ≤ k → k < s + n → w k = v k) → gov w s n = gov v s n := by
  intro n
  induction n with
  | zero => intro _; rfl
  | succ n ih =>
    intro h
    unfold gov
    rw [ih (fun k h0 h1 => h k h0 (by omega)), h (s + n) (by omega) (by omega)]
theorem mlf_l {D s L : Int} (hD : 0 ≤ D) : 0 ≤ mlf D s L ∧ (mlf D s L ≠ 0 → s + mlf D s L ≤ L) := by
  unfold mlf
  (repeat' split) <;> omega
theorem rdy_c {w v : Int → Int} : ∀ (n : Nat) (i : Int), (∀ k : Int, i ≤ k → k < i + n → w k = v k) → rdy w n i = rdy v n i := by
  intro n
  induction n with
  | zero => intro i _; rfl
  | succ n ih =>
    intro i h
    unfold rdy
    rw [h i (by omega) (by omega), ih (i + 1) (fun k h0 h1 => h k (by omega) (by omega))]
theorem rdy_a {w : Int → Int} : ∀ (n : Nat) (i : Int), rdy w n i ≠ 0 → ∀ k : Int, i ≤ k → k < i + n → w k ≠ -1 := by
  intro n
  induction n with
  | zero => intro i _ k h0 h1; omega
  | succ n ih =>
    intro i h k h0 h1
    unfold rdy at h
    by_cases c : w i = -1
    · rw [if_pos c] at h
      exact absurd rfl h
    · rw [if_neg c] at h
      by_cases e : k = i
      · rw [e]; exact c
      · exact ih (i + 1) h k (by omega) (by omega)
/-- a piece is taken -/
theorem ga_t {T M Rb Rw Rl R5 : jm} {G : Nat} {g i x h t : Int} {f : Int → Int} {N C : Int} (hg : 0 ≤ g) (L : GL T Rb G g) (h0 : 0 ≤ h ∧ h < C) (ho : 0 ≤ ofs f N C h) (hc : 1 ≤ N - enf f N C h) (hi : (i = 1 ∧ mrf f N C h ≠ 1 ∧ T G 7 = -1) ∨ (i = 0 ∧ ¬ (mrf f N C h ≠ 1 ∧ T G 7 = -1))) (h3 : mrf f N C h ≠ 1 → T G 7 = -1 → ofs f N C h + (N - enf f N C h) ≤ 360) (W : WH6 Rb Rw g i (ofs f N C h + (N - enf f N C h))) (Y : LY6 Rw Rl g x (enf f N C h) (N - enf f N C h) (ofs f N C h)) (K : (ofs f N C h = 0 ∧ Rl 617 g = -1 ∧ KH6 Rl R5 g x h t) ∨ (¬ (ofs f N C h = 0 ∧ Rl 617 g = -1) ∧ R5 = Rl)) (hf : rf Rb x = f) (hb : ∀ i : Int, 0 ≤ f i ∧ f i ≤ 255) (hn : N ≤ 400)
  (kk : Rb 607 g = hX f N h) (k5 : Rb 611 g = vA f N C h (if kA f N C h = 2 then 7 else 0)) (tt : t = ntf f N C ∧ (0 ≤ t ∧ t < C)) (hk : (hX f N h = 2 ∧ t = h) ∨ hX f N h = 6) (hd : ∀ j : Int, 0 ≤ j → j < C → Rb 603 j = hX f N j ∧ Rb 604 j = hY f N j ∧ Rb 605 j = hZ f N j ∧ 0 ≤ hY f N j ∧ hY f N j + hZ f N j ≤ N ∧ 0 ≤ hZ f N j ∧ (hX f N j = 2 → 20 ≤ hZ f N j) ∧ (hX f N j = 6 → 8 ≤ hZ f N j)) (tk : TKI T M G f N C h) : GL M R5 G g ∧ RDl M R5 ∧ (∀ (b : Nat) (j : Int), b ≠ 615 → b ≠ 616 → b ≠ 618 → b ≠ 598 → b ≠ 622 → j ≠ g → R5 b j = Rb b j) ∧ (∀ j : Int, (j < 360 * g ∨ 360 * g + 360 ≤ j) → R5 615 j = Rb 615 j ∧ R5 616 j = Rb 616 j) ∧ (∀ j : Int, (j < 400 * g ∨ 400 * g + 400 ≤ j) → R5 618 j = Rb 618 j) ∧ (∀ (b : Nat) (j : Int), b < 613 → b ≠ 598 → R5 b j = Rb b j) := by
  obtain ⟨⟨l1, l1', l1'', l1a, l1b, l1c⟩, l2, ⟨l3, l3', l3''⟩, l4, l5, l6⟩ := L
  obtain ⟨⟨w1, w2⟩, w3, w4, w5, w6, w7, w8⟩ := ga_w l3.symm l3' l3'' ho hc hi h3 W
  obtain ⟨⟨⟨t1, t2⟩, t3, t4, t5⟩, t6, t7, t8, t9, ta, tb⟩ := tk
  obtain ⟨⟨⟨y1, y2⟩, y3, y4, y5, y6, y7, y8⟩, y9, ya⟩ := Y
  have ef : rf Rw x = f := (rf_e (fun i => w6 601 i (by decide) (by decide) (by decide))).trans hf
  have lm := lpf_m (wh1 f N C h (T G 7))
  have ml := mlf_l (D := N - enf f N C h) (s := ofs f N C h) (L := lpf (wh1 f N C h (T G 7))) (by omega)
  rw [w1] at y1 y4 y5 y6 y8
  have rows : ∀ k : Int, 0 ≤ k → k < lpf (wh1 f N C h (T G 7)) → T (G + 1) k = wR Rw g k := fun k k0 k1 => by rw [w5 k k0 k1]; exact l4 k k0 (by omega)
  have govs : gov (T (G + 1)) (ofs f N C h) (mlf (N - enf f N C h) (ofs f N C h) (lpf (wh1 f N C h (T G 7)))).toNat = gov (wR Rw g) (ofs f N C h) (mlf (N - enf f N C h) (ofs f N C h) (lpf (wh1 f N C h (T G 7)))).toNat := gov_e _ (fun k k0 k1 => rows k (by omega) (by omega))
  -- the reference's cells, from Rb to R5
  have K2 : (∀ (b : Nat) (i : Int), b ≠ 617 → b ≠ 618 → b ≠ 619 → b ≠ 620 → b ≠ 621 → R5 b i = Rl b i) ∧ (∀ (b : Nat) (j : Int), b ≠ 618 → j ≠ g → R5 b j = Rl b j) ∧ (∀ j : Int, (j < 400 * g ∨ 400 * g + 400 ≤ j) → R5 618 j = Rl 618 j) := by
    rcases K with ⟨-, -, ⟨-, -, k3, k4⟩, k5⟩ | ⟨-, k⟩
    · exact ⟨k5, k3, k4⟩
    · rw [k]
      exact ⟨fun _ _ _ _ _ _ _ => rfl, fun _ _ _ _ => rfl, fun _ _ => rfl⟩
  have lo : ∀ (b : Nat) (j : Int), b < 613 → b ≠ 598 → R5 b j = Rb b j := fun b j h1 h2 => (K2.1 b j (by omega) (by omega) (by omega) (by omega) (by omega)).trans ((y9 b j h2 (by omega) (by omega) (by omega)).trans (w6 b j (by omega) (by omega) (by omega)))
  have up : ∀ (b : Nat) (j : Int), 616 < b → b ≠ 622 → Rl b j = Rb b j := fun b j h1 h2 => (y9 b j (by omega) (by omega) (by omega) h2).trans (w6 b j (by omega) (by omega) (by omega))
  have lw : ∀ (b : Nat) (j : Int), b < 613 → b ≠ 598 → Rl b j = Rb b j := fun b j h1 h2 => (y9 b j h2 (by omega) (by omega) (by omega)).trans (w6 b j (by omega) (by omega) (by omega))
  have l7 : Rl 617 g = T G 11 := (up 617 g (by decide) (by decide)).trans l5.symm
  refine ⟨⟨⟨?_, ?_, ?_, ?_, ?_, ?_⟩, ?_, ⟨?_, ?_, ?_⟩, fun k k0 k1 => ?_, ?_, fun u => ?_⟩, fun k k0 k1 => ?_, fun b j h1 h2 h3 h4 h5 hj => ?_, fun j hj => ⟨?_, ?_⟩, fun j hj => ?_, lo⟩
  · rw [t3 1 (by decide) (by decide) (by decide) (by decide) (by decide), lo 607 g (by decide) (by decide)]; exact l1
  · rw [t3 2 (by decide) (by decide) (by decide) (by decide) (by decide), lo 608 g (by decide) (by decide)]; exact l1'
  · rw [t3 3 (by decide) (by decide) (by decide) (by decide) (by decide), lo 609 g (by decide) (by decide)]; exact l1''
  · rw [t3 4 (by decide) (by decide) (by decide) (by decide) (by decide), lo 610 g (by decide) (by decide)]; exact l1a
  · rw [t3 5 (by decide) (by decide) (by decide) (by decide) (by decide), lo 611 g (by decide) (by decide)]; exact l1b
  · rw [t3 6 (by decide) (by decide) (by decide) (by decide) (by decide), lo 612 g (by decide) (by decide)]; exact l1c
  · rw [lo 607 g (by decide) (by decide)]; exact l2
  · rw [t1, K2.1 614 g (by decide) (by decide) (by decide) (by decide) (by decide), y9 614 g (by decide) (by decide) (by decide) (by decide), w1]
  · rw [t1, t2, K2.1 613 g (by decide) (by decide) (by decide) (by decide) (by decide), y9 613 g (by decide) (by decide) (by decide) (by decide), w2]
  · rw [t1]; exact w3
  · rw [t1] at k1
    have e : wR R5 g k = wR Rl g k := wR_e (fun k _ _ => ⟨K2.1 615 _ (by decide) (by decide) (by decide) (by decide) (by decide), K2.1 616 _ (by decide) (by decide) (by decide) (by decide) (by decide)⟩) k0 (by omega)
    rw [e, t6 k k0 (by omega), y1 k k0 (by omega)]
    exact glay_e (rows k k0 k1) ef.symm
  · rcases K with ⟨c1, c2, ⟨⟨q1, -⟩, -⟩, -⟩ | ⟨c1, c2⟩
    · rw [l7] at c2
      rcases t4 with ⟨-, -, t4, -⟩ | ⟨t4, -⟩
      · rw [t4.1, q1, lw 604 h (by decide) (by decide), lw 605 h (by decide) (by decide), enf_i h0, (hd h h0.1 h0.2).2.1, (hd h h0.1 h0.2).2.2.1]
      · exact absurd ⟨c1, c2⟩ t4
    · rw [l7] at c1
      rcases t4 with ⟨u1, u2, -⟩ | ⟨-, t4, -⟩
      · exact absurd ⟨u1, u2⟩ c1
      · rw [t4.1, c2, l7]
  · rcases K with ⟨c1, c2, ⟨⟨q1, q2, q3, q4⟩, q5, -, -⟩, -⟩ | ⟨c1, c2⟩
    · rw [l7] at c2
      have hh := hd h h0.1 h0.2
      have ht := hd t tt.2.1 tt.2.2
      rw [lw 604 h (by decide) (by decide), lw 605 h (by decide) (by decide), hh.2.1, hh.2.2.1] at q1 q5
      rw [lw 604 h (by decide) (by decide), hh.2.1] at q2
      rw [lw 604 t (by decide) (by decide), ht.2.1] at q3
      have el : rf Rl x = f := (rf_e (fun i => lw 601 i (by decide) (by decide))).trans hf
      rw [el] at q5
      rcases t4 with ⟨-, -, ⟨v1, v2, v3⟩, v4⟩ | ⟨t4, -⟩
      · rw [enf_i h0] at v4
        rw [q1, q2, q3, lo 607 g (by decide) (by decide), lo 611 g (by decide) (by decide), kk]
        refine ⟨fun k k0 k1 => by rw [v4 k k0 k1, q5 k k0 k1], ?_, fun u6 => ⟨?_, ?_⟩, fun u2 => ?_⟩
        · rw [v2, ← tt.1]
          unfold pA
          rw [if_pos tt.2]
        · rw [l1, kk] at v3
          have v5 : M G 13 = pA f N C (h - 1) + (if kA f N C (h - 1) = 3 then 4 else 0) := by
            rcases v3 with v | v
            · exact v.2
            · exact absurd u6 v.1
          have hz : h ≠ 0 := fun e => by
            rw [e] at u6
            exact absurd u6 (show ¬ ((0 : Int) = 6) by decide)
          have hp := hd (h - 1) (by omega) (by omega)
          rw [v5, q4, if_neg hz, lw 604 _ (by decide) (by decide), lw 603 _ (by decide) (by decide), hp.1, hp.2.1, kA_i (by omega)]
          unfold pA
          rw [if_pos (by omega)]
        · rw [q5 _ hh.2.2.2.1 (by have := hh.2.2.2.2.2.2.2 u6; omega), k5, kA_i h0, u6, if_neg (by decide), vA_k h0 u6 (by rw [show xcv_2 6 = 4 by decide +kernel]; decide), vof_6_0, nbs_1, Int.add_zero]
          have := hb (hY f N h)
          omega
        · have e : t = h := by
            rcases hk with v | v
            · exact v.2
            · omega
          have z20 := hh.2.2.2.2.2.2.1 u2
          have zz : hZ f N h = 4 * (f (hY f N h) % 16) := by
            unfold hZ
            rw [u2]
            unfold hsZ
            rw [if_pos rfl, hb_i hh.2.2.2.1 (by omega)]
          rw [e, q5 _ hh.2.2.2.1 (by omega), ← zz]
          exact ⟨rfl, by omega⟩
      · exact absurd ⟨c1, c2⟩ t4
    · rw [l7] at c1
      rcases t4 with ⟨u1, u2, -⟩ | ⟨-, ⟨v1, v2, v3⟩, v4⟩
      · exact absurd ⟨u1, u2⟩ c1
      · rw [c2, up 617 g (by decide) (by decide)] at u
        rw [c2, up 617 g (by decide) (by decide), up 621 g (by decide) (by decide), up 620 g (by decide) (by decide), up 619 g (by decide) (by decide), lw 607 g (by decide) (by decide), lw 611 g (by decide) (by decide), v2, v3, up 618 _ (by decide) (by decide), up 618 _ (by decide) (by decide)]
        obtain ⟨g1, g2, g3, g4⟩ := l6 u
        exact ⟨fun k k0 k1 => by rw [v4, up 618 _ (by decide) (by decide)]; exact g1 k k0 k1, g2, g3, g4⟩
  · rw [K2.1 598 34 (by decide) (by decide) (by decide) (by decide) (by decide), y3, if_neg (by decide), K2.1 622 k (by decide) (by decide) (by decide) (by decide) (by decide)]
    rcases (show k = 0 ∨ k = 1 ∨ k = 2 ∨ k = 3 ∨ k = 4 by omega) with rfl | rfl | rfl | rfl | rfl
    · rw [t7, y4, govs]
    · rw [t8, y5, govs]
    · rw [t9, y6]
    · rw [ta, y7, w2]
    · rw [tb, y8]
  · rw [K2.2.1 b j h3 hj, y9 b j h4 h1 h2 h5]
    by_cases e1 : b = 613
    · rw [e1]; exact (w7 j hj).1
    · by_cases e2 : b = 614
      · rw [e2]; exact (w7 j hj).2
      · exact w6 b j e1 e2 h2
  · rw [K2.1 615 j (by decide) (by decide) (by decide) (by decide) (by decide), (y2 j hj).2, w6 615 j (by decide) (by decide) (by decide)]
  · rw [K2.1 616 j (by decide) (by decide) (by decide) (by decide) (by decide), (y2 j hj).1, w8 j hj]
  · rw [K2.2.2 j hj, up 618 j (by decide) (by decide)]
/-- the packet is put together -/
theorem ga_n {M R5 : jm} {G : Nat} {g : Int} (L : GL M R5 G g) : NRD M G ↔ NR6 R5 g := by
  obtain ⟨-, -, ⟨l3, -, l3'⟩, l4, l5, -⟩ := L
  unfold NRD NR6
  rw [← l3, ← l5]
  rcases l3' with e | e
  · exact ⟨fun _ => Or.inl e, fun _ => Or.inl e⟩
  · rw [lpf_p e]
    rw [lpf_p e] at l4
    rw [rdy_c (v := wR R5 g) (M G 7).toNat 0 (fun k k0 k1 => l4 k k0 (by omega))]
theorem ga_h {M R5 : jm} {G : Nat} {g : Int} (L : GL M R5 G g) : hlf (M G 1) (M G 11) = hl2 (R5 607 g) (R5 617 g) := by
  rw [L.1.1, L.2.2.2.2.1]
  unfold hlf hl2
  rcases L.2.1 with e | e <;> rw [e]
  · rfl
  · rfl
theorem ga_m {M R5 : jm} {G : Nat} {g p : Int} {F : Int → Int} (L : GL M R5 G g) (n : ¬ NR6 R5 g) (hF : F = rf R5 p) (h0 : R5 617 g ≠ -1 → 0 ≤ R5 621 g) : mkA M G F = mkR R5 g p := by
  have hh := ga_h L
  obtain ⟨⟨l1, -, -, -, l1b, -⟩, l2, ⟨l3, -, l3'⟩, l4, l5, l6⟩ := L
  unfold NR6 at n
  have n1 : R5 614 g ≠ -1 := fun e => n (Or.inl e)
  have n2 : R5 617 g ≠ -1 := fun e => n (Or.inr (Or.inl e))
  have n3 : rdy (wR R5 g) (R5 614 g).toNat 0 ≠ 0 := fun e => n (Or.inr (Or.inr e))
  have w := l3'.resolve_left (by rw [l3]; exact n1)
  rw [lpf_p w, l3] at l4
  rw [l3] at w
  obtain ⟨g1, g2, g3, g4⟩ := l6 n2
  have m0 : mk0 (M (G + 2)) (M (G + 1)) F (hl2 (R5 607 g) (R5 617 g)) (R5 614 g) = mkG R5 g p := by
    unfold mkG
    rw [hF]
    have hle : hl2 (R5 607 g) (R5 617 g) ≤ R5 617 g := by
      unfold hl2
      split <;> omega
    funext k
    unfold mk0
    by_cases c1 : 0 ≤ k ∧ k < hl2 (R5 607 g) (R5 617 g)
    · rw [if_pos c1, if_pos c1]
      exact g1 k c1.1 (by omega)
    · rw [if_neg c1, if_neg c1]
      by_cases c2 : hl2 (R5 607 g) (R5 617 g) ≤ k ∧ k < hl2 (R5 607 g) (R5 617 g) + R5 614 g
      · rw [if_pos c2, if_pos c2, l4 _ (by omega) (by omega)]
        have a := rdy_a _ _ n3 (k - hl2 (R5 607 g) (R5 617 g)) (by omega) (by omega)
        unfold wR at a ⊢
        by_cases c3 : R5 616 (360 * g + (k - hl2 (R5 607 g) (R5 617 g))) ≠ 0
        · rw [if_pos c3]; rfl
        · rw [if_neg c3] at a
          exact absurd rfl a
      · rw [if_neg c2, if_neg c2]
  unfold mkA
  rw [hh, l3, m0, l1, g2, l1b]
  unfold mkF mkR
  rcases l2 with e | e
  · rw [if_pos e, if_pos e]
    obtain ⟨z1, z2⟩ := g4 e
    have hl : hl2 (R5 607 g) (R5 617 g) = R5 617 g := by rw [e]; rfl
    have at0 : mk2 (mkG R5 g p) (R5 621 g) (hl2 (R5 607 g) (R5 617 g) + R5 614 g) (R5 621 g) = R5 618 (400 * g + R5 621 g) := by
      unfold mk2
      rw [ptn_o (by omega), ptn_o (by omega)]
      unfold mkG mk0
      have := h0 n2
      rw [if_pos (by rw [hl]; omega)]
      rfl
    rw [at0, show hl2 (R5 607 g) (R5 617 g) - R5 621 g = 4 * (R5 618 (400 * g + R5 621 g) % 16) by rw [hl]; omega]
  · obtain ⟨z1, z2⟩ := g3 e
    rw [if_neg (by omega), if_neg (by omega), z1, z2]
end
section
/-! ===== gather: both sides answer alike ===== -/
theorem RDp.n {C D R : jm} (h : RDp C R) (n : NH C D) : RDp D R := fun p p0 p1 => by
  have k := kP p0 p1
  have x := xpk (g := p) ⟨p0, p1⟩
  refine ⟨?_, fun i i0 i1 => ?_⟩
  · rw [n _ 1 (by rw [k.1]; decide) (by omega)]; exact (h p p0 p1).1
  · rw [n _ i (by rw [k.2]; decide) (by omega)]; exact (h p p0 p1).2 i i0 i1
theorem RDl.n {C D R : jm} (h : RDl C R) (n : NH C D) : RDl D R := fun i i0 i1 => by
  rw [n 14 i (by decide) (by decide)]
  exact h i i0 i1
/-- a gathering is found or begun -/
theorem ga_b {M2 M3 R1 Rb : jm} {f : Int → Int} {N C y g g2 Z : Int} (h : RDg M2 R1) (gb : GBG M2 M3 g Z) (g6' : GB6 R1 Rb f N C y g2) (nm : NM5 M2 f N C y) (hk : kA f N C y = hX f N y) (k26 : hX f N y = 2 ∨ hX f N y = 6) (hZ : Z = R1 598 2) : (g = g2 ∧ 0 ≤ g ∧ g < 8) ∧ GL M3 Rb (xe 10 g) g ∧ (M3 (xe 10 g) 0 = Rb 606 g ∧ Rb 606 g ≠ 0) ∧ (Rb 607 g = hX f N y ∧ Rb 611 g = vA f N C y (if kA f N C y = 2 then 7 else 0)) ∧ (fst6 R1 f N C y = 1 ↔ M3 (xe 10 g) 7 = -1) ∧ UN Rb ∧ (∀ (b : Nat) (k : Int), b ≠ xe 10 g → b ≠ xe 10 g + 1 → M3 b k = M2 b k) ∧ (∀ (b : Nat) (j : Int), b ≠ 616 → j ≠ g → Rb b j = R1 b j) ∧ (∀ j : Int, (j < 360 * g ∨ 360 * g + 360 ≤ j) → Rb 616 j = R1 616 j) ∧ (∀ (b : Nat) (j : Int), b < 606 ∨ 617 < b ∨ b = 615 → Rb b j = R1 b j) := by
  obtain ⟨n1, n2, n3, n4, n5⟩ := nm
  rw [hk] at n1
  have gs : gS M2 8 0 = g6 R1 f N C y := ga_s h n1 n2 n3 n4 n5
  have sp := gL_p R1 (hX f N y) (adf f N C (ntf f N C) 0) (adf f N C (ntf f N C) 1) (vA f N C y 3) (vA f N C y (if kA f N C y = 2 then 7 else 0)) 8
  have ge := ga_e h 8 0 (by decide) (by decide)
  unfold GBG at gb
  rw [gs, ge] at gb
  rcases gb with ⟨a1, a2, a3⟩ | ⟨a1, a2, a3, a4⟩ <;> rcases g6' with ⟨b1, b2, b3⟩ | ⟨b1, b2, b3, b4⟩
  · subst a3
    subst b3
    have s := sp.resolve_left (fun u => a1 u.1)
    rw [show gL Rb (hX f N y) (adf f N C (ntf f N C) 0) (adf f N C (ntf f N C) 1) (vA f N C y 3) (vA f N C y (if kA f N C y = 2 then 7 else 0)) 8 = g from a2.symm] at s
    have q := h.2 g s.1.1 (by omega)
    refine ⟨⟨a2.trans b2.symm, s.1.1, by omega⟩, q.2 s.2.1, ⟨q.1, s.2.1⟩, ⟨s.2.2.1, s.2.2.2.2.2.2⟩, ?_, h.1, fun _ _ _ _ => rfl, fun _ _ _ _ => rfl, fun _ _ => rfl, fun _ _ _ => rfl⟩
    have w := (q.2 s.2.1).2.2.1.1
    unfold fst6
    rw [← a2, w]
    by_cases c : Rb 614 g = -1
    · rw [if_pos (Or.inr c)]
      exact ⟨fun _ => c, fun _ => rfl⟩
    · rw [if_neg (by omega)]
      exact ⟨fun u => absurd u (by decide), fun u => absurd u c⟩
  · exact absurd b1 a1
  · exact absurd a1 b1
  · have r := (gE_r R1 8 0 (by decide)).resolve_left (by rw [← a2]; exact a3)
    rw [← a2] at r
    have eg : g = g2 := a2.trans b2.symm
    rw [← eg] at b4
    obtain ⟨⟨c0, c1, c2, c3, c4, c5, c6, c7, c8, c9⟩, c10, c11⟩ := a4
    obtain ⟨⟨d0, d1, d2, d3, d4, d5, d6, d7, d8⟩, d9, d10, d11, d12, d13⟩ := b4
    have no := (sp.resolve_right (fun u => by
      have : g6 R1 f N C y = gL R1 (hX f N y) (adf f N C (ntf f N C) 0) (adf f N C (ntf f N C) 1) (vA f N C y 3) (vA f N C y (if kA f N C y = 2 then 7 else 0)) 8 := rfl
      omega)).2
    refine ⟨⟨eg, r.1.1, by omega⟩, ⟨⟨by rw [c1, d1, n1], by rw [c2, d5, n2], by rw [c3, d6, n3], by rw [c4, d7, n4], by rw [c5, d8, n5], by rw [c6, d9, hZ]⟩, by rw [d1]; exact k26, ⟨by rw [c7, d2], by rw [c7, c8, d4]; rfl, Or.inl c7⟩, fun k k0 k1 => ?_, by rw [c9, d3], fun u => absurd d3 u⟩, ⟨by rw [c0, d0], by rw [d0]; decide⟩, ⟨d1, d8⟩, ?_, ?_, c11, d10, d11, d13⟩
    · rw [c7] at k1
      have l : lpf (-1) = 360 := rfl
      rw [c10 k k0 (by omega)]
      unfold wR
      rw [if_neg (by rw [d12 k k0 (by omega)]; decide)]
    · unfold fst6
      rw [if_pos (Or.inl b1)]
      exact ⟨fun _ => c7, fun _ => rfl⟩
    · intro i j i0 i1 j0 j1 u v w
      by_cases e1 : i = g
      · by_cases e2 : j = g
        · omega
        · exfalso
          rw [e1] at w
          rw [d10 607 j (by decide) e2, d10 608 j (by decide) e2, d10 609 j (by decide) e2, d10 610 j (by decide) e2, d10 611 j (by decide) e2, d1, d5, d6, d7, d8] at w
          rw [d10 606 j (by decide) e2] at v
          exact no j j0 j1 ⟨v, w.1.symm, w.2.1.symm, w.2.2.1.symm, w.2.2.2.1.symm, w.2.2.2.2.symm⟩
      · by_cases e2 : j = g
        · exfalso
          rw [e2] at w
          rw [d10 607 i (by decide) e1, d10 608 i (by decide) e1, d10 609 i (by decide) e1, d10 610 i (by decide) e1, d10 611 i (by decide) e1, d1, d5, d6, d7, d8] at w
          rw [d10 606 i (by decide) e1] at u
          exact no i i0 i1 ⟨u, w⟩
        · rw [d10 606 i (by decide) e1] at u
          rw [d10 606 j (by decide) e2] at v
          rw [d10 607 i (by decide) e1, d10 608 i (by decide) e1, d10 609 i (by decide) e1, d10 610 i (by decide) e1, d10 611 i (by decide) e1, d10 607 j (by decide) e2, d10 608 j (by decide) e2, d10 609 j (by decide) e2, d10 610 j (by decide) e2, d10 611 j (by decide) e2] at w
          exact h.1 i j i0 i1 j0 j1 u v w
/-- the packet is made, or not yet -/
theorem ga_z {M D R5 S : jm} {g r r2 : Int} {F : Int → Int → Int} (hg : 0 ≤ g ∧ g < 8) (L : GL M R5 (xe 10 g) g) (l0 : M (xe 10 g) 0 = R5 606 g) (hp : RDp M R5) (hF : ∀ p : Int, F p = rf R5 p) (h0 : R5 617 g ≠ -1 → 0 ≤ R5 621 g) (p : (NRD M (xe 10 g) ∧ r = -1 ∧ D = M) ∨ (¬ NRD M (xe 10 g) ∧ PTO M D (xe 10 g) F r)) (q : FIN R5 S g r2) : r = r2 ∧ RDp D S ∧ GR1 D S (xe 10 g) g ∧ (∀ (b : Nat) (k : Int), (b < 526 ∨ 573 < b) → b ≠ xe 10 g → D b k = M b k) ∧ (∀ j : Int, j ≠ g → S 606 j = R5 606 j) ∧ (S 606 g = 0 ∨ S 606 g = R5 606 g) := by
  have nn := ga_n L
  have hh := ga_h L
  have pp := ga_p hp 24 0 (by decide) (by decide)
  have x := xgx hg
  have w3 : M (xe 10 g) 7 = R5 614 g := L.2.2.1.1
  rcases p with ⟨p1, p2, p3⟩ | ⟨p1, p2⟩ <;> rcases q with ⟨q1, q2, q3⟩ | ⟨q1, q2, q3, q4⟩ | ⟨q1, q2, q3, q4, q5, q6, q7⟩
  · rw [p3, q3]
    exact ⟨by omega, hp, ⟨l0, fun _ => L⟩, fun _ _ _ _ => rfl, fun _ _ => rfl, Or.inr rfl⟩
  · exact absurd (nn.1 p1) q1
  · exact absurd (nn.1 p1) q1
  · exact absurd (nn.2 q1) p1
  · unfold PTO at p2
    rw [pp, hh, w3] at p2
    rcases p2 with ⟨c1, c2, c3⟩ | ⟨c1, c2⟩
    · rw [c3, q4]
      exact ⟨by omega, hp, ⟨l0, fun _ => L⟩, fun _ _ _ _ => rfl, fun _ _ => rfl, Or.inr rfl⟩
    · omega
  · unfold PTO at p2
    rw [pp, hh, w3] at p2
    rcases p2 with ⟨c1, c2, c3⟩ | ⟨c1, c2, M1, ⟨m1, m2, m3, m4⟩, c3⟩
    · omega
    · have rp := (pF_r M 24 0 (by decide)).resolve_left (by rw [pp]; exact c1.1)
      rw [pp, ← q3] at rp
      rw [← q3] at m1 m2 m3 m4 c2
      have xp := xpk (g := r2) ⟨by omega, by omega⟩
      have dM : ∀ (b : Nat) (k : Int), b ≠ xe 10 g → D b k = M1 b k := fun b k hb => by rw [c3, ju_c _ _ hb]
      rw [ga_m L q1 (hF r2) h0] at m1
      refine ⟨c2, ?_, ⟨?_, fun u => absurd q4.2.1 u⟩, fun b k h1 h2 => (dM b k h2).trans (m4 b k (by omega) (by omega)), q7, Or.inl q4.2.1⟩
      · refine rdp_bytes hp (x := r2) (g := mkR R5 g r2) (g2 := mkR R5 g r2) (by omega) (fun b b0 b1 => ?_) (fun i i0 i1 => ?_) (fun i i0 i1 => ?_) (fun _ _ _ => rfl) (fun b b0 b1 e i => ?_) q5
        · have xb := xpk (g := b) ⟨b0, b1⟩
          rw [dM _ 1 (by omega)]
          by_cases e : b = r2
          · rw [e, m2, q4.1]
          · rw [m4 _ 1 (by omega) (by omega), q6 b e]
            exact (hp b b0 b1).1
        · rw [dM _ i (by omega)]
          exact (m1 i i0 i1).1
        · exact congrFun q4.2.2 i
        · have xb := xpk (g := b) ⟨b0, b1⟩
          rw [dM _ i (by omega), m4 _ i (by omega) (by omega)]
      · rw [c3, ju_same, q4.2.1]
theorem op_gather {C D R S : jm} {r r2 : Int} (h : RDA C R) (hG : RG1 R) (hI : RI R) (hI2 : RI S) {x : Int} (hT : C 0 8 = R 598 2) (f : FR W_c_PacketWall_gather_x C D) (p : (((x < 0 ∨ 23 < x ∨ C (xe 2 x) 1 = -1) ∧ r = -2 ∧ NH C D) ∨ (((0 ≤ x ∧ x ≤ 23) ∧ C (xe 2 x) 1 ≠ -1) ∧ ∃ c : Int, HE (rf R x) (C (xe 2 x) 1) c ∧ GAQ C D (rf R x) (C (xe 2 x) 1) c (C 0 8) (rf R) r))) (q : GAR R S x r2) (hf : ∀ (a : Nat) (i : Int), a ≠ 598 → a ≠ 600 → a ≠ 601 → a ≠ 602 → a ≠ 603 → a ≠ 604 → a ≠ 605 → a ≠ 606 → a ≠ 607 → a ≠ 608 → a ≠ 609 → a ≠ 610 → a ≠ 611 → a ≠ 612 → a ≠ 613 → a ≠ 614 → a ≠ 615 → a ≠ 616 → a ≠ 617 → a ≠ 618 → a ≠ 619 → a ≠ 620 → a ≠ 621 → a ≠ 622 → S a i = R a i) (hk : ∀ (i : Int), i ≠ 6 → i ≠ 10 → i ≠ 11 → i ≠ 12 → i ≠ 34 → S 598 i = R 598 i) : RDA D S ∧ r = r2 := by
  have rest : RDp D S ∧ RDl D S ∧ RDg D S → RDA D S := fun a => ⟨((h.1.f f rfl).r (fun i => hf 599 i (nne rfl) (nne rfl) (nne rfl) (nne rfl) (nne rfl) (nne rfl) (nne rfl) (nne rfl) (nne rfl) (nne rfl) (nne rfl) (nne rfl) (nne rfl) (nne rfl) (nne rfl) (nne rfl) (nne rfl) (nne rfl) (nne rfl) (nne rfl) (nne rfl) (nne rfl) (nne rfl) (nne rfl)) (hk 1 (zne rfl) (zne rfl) (zne rfl) (zne rfl) (zne rfl))), a.1, ((h.2.2.1.f f rfl).r (fun i _ _ => (hk i (by omega) (by omega) (by omega) (by omega) (by omega)))), a.2.1, ((h.2.2.2.2.1.f f rfl).r (fun a i _ _ => hf a i (by omega) (by omega) (by omega) (by omega) (by omega) (by omega) (by omega) (by omega) (by omega) (by omega) (by omega) (by omega) (by omega) (by omega) (by omega) (by omega) (by omega) (by omega) (by omega) (by omega) (by omega) (by omega) (by omega) (by omega))), ((h.2.2.2.2.2.1.f f rfl).r (fun a i _ _ => hf a i (by omega) (by omega) (by omega) (by omega) (by omega) (by omega) (by omega) (by omega) (by omega) (by omega) (by omega) (by omega) (by omega) (by omega) (by omega) (by omega) (by omega) (by omega) (by omega) (by omega) (by omega) (by omega) (by omega) (by omega))), a.2.2⟩
  have early : NH C D → LKO R S → RDp D S ∧ RDl D S ∧ RDg D S := fun n k => ⟨(h.2.1.n n).r (fun a i _ _ => k.1 a i (by omega) (by omega) (by omega) (by omega)), (h.2.2.2.1.n n).r (fun i => k.1 622 i (by decide) (by decide) (by decide) (by decide)) (k.2 34 (by decide) (by decide) (by decide) (by decide)), (h.2.2.2.2.2.2.n n).r hG hI (fun a i _ _ => k.1 a i (by omega) (by omega) (by omega) (by omega))⟩
  have lr : LKO R R := ⟨fun _ _ _ _ _ _ => rfl, fun _ _ _ _ _ => rfl⟩
  have hb := rf_r hI x
  by_cases hx : 0 ≤ x ∧ x ≤ 23
  · have hN := (h.2.1 x (by omega) (by omega)).1
    have bN : (-1 : Int) ≤ R 600 x ∧ R 600 x ≤ 400 := by have q := hI 600 x (Nat.le_of_ble_eq_true rfl); rw [xri_row rfl rfl] at q; exact q
    rw [hN] at p
    rcases p with ⟨p0, p1, p2⟩ | ⟨p0, c, p1, p2⟩
    · rcases q with ⟨q0, q1, q2⟩ | ⟨q0, -⟩ | ⟨h', t, k, g, o, cc, e, M3, M4, M5, ⟨Rb, i, ⟨R1, px, -⟩, -⟩, -⟩
      · rw [q2] at early ⊢
        rw [q2] at rest
        exact ⟨rest (early p2 lr), by omega⟩
      · omega
      · have := px.2.2.2.2.2.2.2.1
        omega
    · rcases q with ⟨q0, q1, q2⟩ | ⟨-, R1, q1, q2, q3⟩ | ⟨h', t, k, g2, o, cc, e, M3, M4, M5, ⟨Rb, i, ⟨R1, px, ⟨e1, e2, e3⟩, e4, e5, e6⟩, e7⟩, e8, e9, e10, e11⟩
      · omega
      · have ec := HE.u p1 q2
        rw [← ec] at q3
        have rg : ∀ M2 : jm, NH C M2 → RDg M2 R1 := fun M2 n => (h.2.2.2.2.2.2.n n).r hG hI (fun a i _ _ => q1.1 a i (by omega) (by omega) (by omega) (by omega))
        rcases p2 with ⟨a1, a2, a3⟩ | ⟨a1, a2, M2, a3, a4, a5⟩ <;> rcases q3 with ⟨b1, b2, b3⟩ | ⟨b1, b2⟩
        · rw [← b3] at q1
          exact ⟨rest (early a3 q1), by omega⟩
        · omega
        · omega
        · have pr := (pcf_r (f := rf R x) (N := R 600 x) p1.1.1).resolve_left a2
          have gs : gS M2 8 0 = g6 R1 (rf R x) (R 600 x) c (pcf (rf R x) (R 600 x) c) := ga_s (rg M2 a3) (a4.1.trans (kA_i pr.1)) a4.2.1 a4.2.2.1 a4.2.2.2.1 a4.2.2.2.2
          have ge := ga_e (rg M2 a3) 8 0 (by decide) (by decide)
          have fs : fstv M2 = fst6 R1 (rf R x) (R 600 x) c (pcf (rf R x) (R 600 x) c) := by
            unfold fstv fst6
            rw [gs]
            by_cases u : g6 R1 (rf R x) (R 600 x) c (pcf (rf R x) (R 600 x) c) = -1
            · rw [if_pos (Or.inl u), if_pos (Or.inl u)]
            · have s := (gL_p R1 (hX (rf R x) (R 600 x) (pcf (rf R x) (R 600 x) c)) (adf (rf R x) (R 600 x) c (ntf (rf R x) (R 600 x) c) 0) (adf (rf R x) (R 600 x) c (ntf (rf R x) (R 600 x) c) 1) (vA (rf R x) (R 600 x) c (pcf (rf R x) (R 600 x) c) 3) (vA (rf R x) (R 600 x) c (pcf (rf R x) (R 600 x) c) (if kA (rf R x) (R 600 x) c (pcf (rf R x) (R 600 x) c) = 2 then 7 else 0)) 8).resolve_left (fun v => u v.1)
              have w := ((rg M2 a3).2 (g6 R1 (rf R x) (R 600 x) c (pcf (rf R x) (R 600 x) c)) s.1.1 (by exact s.1.2)).2 s.2.1
              rw [w.2.2.1.1]
          rw [← fs, ← gs, ← ge] at b2
          have dd : r = r2 ∧ D = M2 ∧ S = R1 := by
            rcases a5 with ⟨c1, c2, c3⟩ | ⟨c1, c2, c3, c4, c5⟩ | ⟨c1, g, M3, M4, c2, -⟩ <;> rcases b2 with ⟨d1, d2, d3⟩ | ⟨d1, d2, d3, d4⟩
            · exact ⟨by omega, c3, d3⟩
            · exact absurd c1 d1
            · exact absurd d1 c1
            · exact ⟨by omega, c5, d4⟩
            · exact absurd d1 c1
            · rcases c2 with c2 | c2
              · exact absurd d2.1 c2.1
              · exact absurd (c2.2.1.trans d2.2) c2.2.2.1
          rw [← dd.2.2] at q1
          rw [← dd.2.1] at a3
          exact ⟨rest (early a3 q1), dd.1⟩
      · have q2 := px.2.1
        have ec := HE.u p1 q2.1
        have lk := px.2.2.2.2.2.2.2.2
        have hc := px.c
        have hk := px.2.2.2.2.1
        have hh := px.2.2.1
        have ht := px.2.2.2.1
        have ht1 := px.1
        rw [← ec] at e1 e2 e3 e4 e5 e6 hc q2 hh ht ht1
        rcases p2 with ⟨a1, -⟩ | ⟨a1, a2, M2, a3, a4, a5⟩
        · have h1 := q2.2
          have h2 := hh.1
          have h3 := hh.2
          omega
        · rw [← hh.1] at a4
          have rg : RDg M2 R1 := (h.2.2.2.2.2.2.n a3).r hG hI (fun a i _ _ => lk.1 a i (by omega) (by omega) (by omega) (by omega))
          have k26 : (hX (rf R x) (R 600 x) h' = 2 ∧ t = h') ∨ hX (rf R x) (R 600 x) h' = 6 := by
            rcases hc.2 with u | u
            · exact Or.inl ⟨by rw [← hk]; exact u.1, u.2⟩
            · exact Or.inr (by rw [← hk]; exact u.1)
          have kA' : kA (rf R x) (R 600 x) c h' = hX (rf R x) (R 600 x) h' := kA_i hc.1
          have gs : gS M2 8 0 = g6 R1 (rf R x) (R 600 x) c h' := ga_s rg (a4.1.trans kA') a4.2.1 a4.2.2.1 a4.2.2.2.1 a4.2.2.2.2
          have ge := ga_e rg 8 0 (by decide) (by decide)
          have fs : fstv M2 = fst6 R1 (rf R x) (R 600 x) c h' := by
            unfold fstv fst6
            rw [gs]
            by_cases u : g6 R1 (rf R x) (R 600 x) c h' = -1
            · rw [if_pos (Or.inl u), if_pos (Or.inl u)]
            · have s := (gL_p R1 (hX (rf R x) (R 600 x) h') (adf (rf R x) (R 600 x) c (ntf (rf R x) (R 600 x) c) 0) (adf (rf R x) (R 600 x) c (ntf (rf R x) (R 600 x) c) 1) (vA (rf R x) (R 600 x) c h' 3) (vA (rf R x) (R 600 x) c h' (if kA (rf R x) (R 600 x) c h' = 2 then 7 else 0)) 8).resolve_left (fun v => u v.1)
              have w := (rg.2 (g6 R1 (rf R x) (R 600 x) c h') s.1.1 (by exact s.1.2)).2 s.2.1
              rw [w.2.2.1.1]
          unfold GAK at a5
          rw [← hh.1, fs] at a5
          rcases a5 with ⟨c1, -⟩ | ⟨c1, c2, c3, -⟩ | ⟨c1, g, N3, N4, c2, c3, c4⟩
          · exact absurd c1 e4
          · rcases e6 with d | d
            · exact absurd (gs.symm.trans c2) d.1
            · exact absurd (d.2.1.trans (ge.symm.trans c3)) d.2.2.1
          · obtain ⟨⟨g0, g1, g2'⟩, gl, gl0, ⟨gk, gn⟩, gf, gu, gm, gr, gr6, gr0⟩ := ga_b rg c2 e6 a4 kA' (k26.elim (fun u => Or.inl u.1) Or.inr) (hT.trans (lk.2 2 (by decide) (by decide) (by decide) (by decide)).symm)
            rw [← g0] at e7 e8 e9 e10
            have hoo := ofs_r hc.1 (k26.elim (fun u => Or.inl u.1) Or.inr)
            have ho : 0 ≤ ofs (rf R x) (R 600 x) c h' := by unfold ofs; omega
            have f61 : rf Rb x = rf R x := rf_e (fun i => (gr0 601 i (by decide)).trans (lk.1 601 i (by decide) (by decide) (by decide) (by decide)))
            have hd : ∀ j : Int, 0 ≤ j → j < c → Rb 603 j = hX (rf R x) (R 600 x) j ∧ Rb 604 j = hY (rf R x) (R 600 x) j ∧ Rb 605 j = hZ (rf R x) (R 600 x) j ∧ 0 ≤ hY (rf R x) (R 600 x) j ∧ hY (rf R x) (R 600 x) j + hZ (rf R x) (R 600 x) j ≤ R 600 x ∧ 0 ≤ hZ (rf R x) (R 600 x) j ∧ (hX (rf R x) (R 600 x) j = 2 → 20 ≤ hZ (rf R x) (R 600 x) j) ∧ (hX (rf R x) (R 600 x) j = 6 → 8 ≤ hZ (rf R x) (R 600 x) j) := fun j j0 j1 => by
              have a := HT.f ht1 (x := j) ⟨j0, j1⟩
              have y0 := hst_y (f := rf R x) (N := R 600 x) (fun i _ _ => hb i) bN.2 j.toNat (fun i h0 h1 => p1.2.1 i h0 (by omega))
              rw [Int.toNat_of_nonneg j0] at y0
              have z8 := (hsZ_r (fun i _ _ => hb i) bN.2 (hsF_z (p1.2.1 j j0 j1).2).2.1).2
              refine ⟨(gr0 603 j (by decide)).trans a.1, (gr0 604 j (by decide)).trans a.2.1, (gr0 605 j (by decide)).trans a.2.2.1, y0, a.2.2.2.2.1, a.2.2.2.2.2.1, fun u => ?_, fun u => ?_⟩
              · have := a.2.2.2.2.2.2
                omega
              · have z9 : hZ (rf R x) (R 600 x) j = 8 := z8.resolve_left (fun v => v u)
                omega
            have tt : t = ntf (rf R x) (R 600 x) c ∧ (0 ≤ t ∧ t < c) := ⟨ht, by
              rcases hc.2 with u | u
              · rw [u.2]; exact hc.1
              · exact u.2.2⟩
            rw [e1, e2, e3] at e8
            rw [e1, e2] at e7
            rw [e1] at e9
            have w614 : N3 (xe 10 g) 7 = Rb 614 g := gl.2.2.1.1
            have hi : (i = 1 ∧ mrf (rf R x) (R 600 x) c h' ≠ 1 ∧ N3 (xe 10 g) 7 = -1) ∨ (i = 0 ∧ ¬ (mrf (rf R x) (R 600 x) c h' ≠ 1 ∧ N3 (xe 10 g) 7 = -1)) := by
              rw [gf] at e5
              exact e5
            have rq := e4
            unfold rfq at rq
            obtain ⟨tl, tdl, tr, tr6, tr8, tlo⟩ := ga_t g1 gl hc.1 ho (rfq_d e4) hi (fun u v => by have := gf.2 v; omega) e7 e8 e9 f61 hb bN.2 gk gn tt k26 hd c3
            have xg := xgx (g := g) ⟨g1, g2'⟩
            have cl : ∀ (b : Nat) (k : Int), (kd b < 18 ∨ 21 < kd b) → b ≠ 11 → b ≠ 14 → b ≠ xe 10 g → b ≠ xe 10 g + 1 → b ≠ xe 10 g + 2 → N4 b k = C b k := fun b k u1 u2 u3 u4 u5 u6 => (c3.1.2.2.2 b k u4 u5 u6 u3).trans ((gm b k u4 u5).trans (a3 b k u1 u2))
            have rl : ∀ (b : Nat) (j : Int), b < 606 → b ≠ 598 → b ≠ 603 → b ≠ 604 → b ≠ 605 → M5 b j = R b j := fun b j u1 u2 u3 u4 u5 => (tlo b j (by omega) u2).trans ((gr0 b j (by omega)).trans (lk.1 b j u2 u3 u4 u5))
            have hp5 : RDp N4 M5 := fun b b0 b1 => by
              have k := kP b0 b1
              have xb := xpk (g := b) ⟨b0, b1⟩
              refine ⟨?_, fun j j0 j1 => ?_⟩
              · rw [cl _ 1 (by rw [k.1]; decide) (by omega) (by omega) (by omega) (by omega) (by omega), rl 600 b (by decide) (by decide) (by decide) (by decide) (by decide)]
                exact (h.2.1 b b0 b1).1
              · rw [cl _ j (by rw [k.2]; decide) (by omega) (by omega) (by omega) (by omega) (by omega), rl 601 _ (by decide) (by decide) (by decide) (by decide) (by decide)]
                exact (h.2.1 b b0 b1).2 j j0 j1
            have l0 : N4 (xe 10 g) 0 = M5 606 g := by
              rw [c3.1.2.1 0 (by decide) (by decide) (by decide) (by decide) (by decide), tlo 606 g (by decide) (by decide)]
              exact gl0.1
            have h0 : M5 617 g ≠ -1 → 0 ≤ M5 621 g := fun _ => by
              rw [← e11 621 g (by decide) (by decide) (by decide) (by decide)]
              have q := hI2 621 g (by decide)
              rw [xri_row rfl rfl] at q
              exact q.1
            obtain ⟨z1, z2, z3, z4, z5, z6⟩ := ga_z ⟨g1, g2'⟩ tl l0 hp5 (fun p => (rf_e (fun i => rl 601 i (by decide) (by decide) (by decide) (by decide) (by decide))).symm) h0 c4 e10
            refine ⟨rest ⟨z2, fun k k0 k1 => ?_, ?_, fun j j0 j1 => ?_⟩, z1⟩
            · rw [z4 14 k (by decide) (by omega), e11 598 34 (by decide) (by decide) (by decide) (by decide), e11 622 k (by decide) (by decide) (by decide) (by decide)]
              exact tdl k k0 k1
            · intro a b a0 a1 b0 b1 u v w
              have ee : ∀ (n : Nat) (j : Int), 607 ≤ n → n ≤ 611 → S n j = Rb n j := fun n j u1 u2 => (e11 n j (by omega) (by omega) (by omega) (by omega)).trans (tlo n j (by omega) (by omega))
              have e6' : ∀ j : Int, S 606 j ≠ 0 → Rb 606 j ≠ 0 := fun j u => by
                by_cases e : j = g
                · rw [e]; exact gl0.2
                · rw [z5 j e, tlo 606 j (by decide) (by decide)] at u
                  exact u
              rw [ee 607 _ (by decide) (by decide), ee 607 _ (by decide) (by decide), ee 608 _ (by decide) (by decide), ee 608 _ (by decide) (by decide), ee 609 _ (by decide) (by decide), ee 609 _ (by decide) (by decide), ee 610 _ (by decide) (by decide), ee 610 _ (by decide) (by decide), ee 611 _ (by decide) (by decide), ee 611 _ (by decide) (by decide)] at w
              exact gu a b a0 a1 b0 b1 (e6' a u) (e6' b v) w
            · by_cases e : j = g
              · rw [e]; exact z3
              · have xj := xgx (g := j) ⟨j0, j1⟩
                have k := kGa j0 j1
                have k1 := (kf_15_9 k).2
                have k2 := (kf_15_10 k).2
                have y := h.2.2.2.2.2.2.2 j j0 j1
                have sR : ∀ b : Nat, 606 ≤ b → b ≤ 621 → b ≠ 615 → b ≠ 616 → b ≠ 618 → S b j = R b j := fun b u1 u2 u3 u4 u5 => by
                  have s1 : S b j = M5 b j := by
                    by_cases v : b = 606
                    · rw [v]; exact z5 j e
                    · exact e11 b j (by omega) (by omega) (by omega) v
                  rw [s1, tr b j u3 u4 u5 (by omega) (by omega) e, gr b j u4 e, lk.1 b j (by omega) (by omega) (by omega) (by omega)]
                have D0 : ∀ i : Int, D (xe 10 j) i = C (xe 10 j) i := fun i => (z4 _ i (by omega) (by omega)).trans (cl _ i (by rw [k]; decide) (by omega) (by omega) (by omega) (by omega) (by omega))
                have D1 : ∀ i : Int, D (xe 10 j + 1) i = C (xe 10 j + 1) i := fun i => (z4 _ i (by omega) (by omega)).trans (cl _ i (by rw [k1]; decide) (by omega) (by omega) (by omega) (by omega) (by omega))
                have D2 : ∀ i : Int, D (xe 10 j + 2) i = C (xe 10 j + 2) i := fun i => (z4 _ i (by omega) (by omega)).trans (cl _ i (by rw [k2]; decide) (by omega) (by omega) (by omega) (by omega) (by omega))
                refine ⟨by rw [D0, sR 606 (by decide) (by decide) (by decide) (by decide) (by decide)]; exact y.1, fun u => ?_⟩
                rw [sR 606 (by decide) (by decide) (by decide) (by decide) (by decide)] at u
                have z := RG1.q hG hI j0 u
                refine ((y.2 u).r z.1 z.2 (fun b b0 b1 b2 b3 b4 => sR b (by omega) b1 b2 b3 b4) (fun k k0 k1 => ?_) (fun k k0 k1 => ?_)).e (fun i _ => D0 i) D1 D2
                · have o1 : 360 * j + k < 360 * g ∨ 360 * g + 360 ≤ 360 * j + k := by omega
                  rw [e11 615 _ (by decide) (by decide) (by decide) (by decide), e11 616 _ (by decide) (by decide) (by decide) (by decide), (tr6 _ o1).1, (tr6 _ o1).2, gr6 _ o1, gr0 615 _ (by decide), lk.1 615 _ (by decide) (by decide) (by decide) (by decide), lk.1 616 _ (by decide) (by decide) (by decide) (by decide)]
                  exact ⟨rfl, rfl⟩
                · have o1 : 400 * j + k < 400 * g ∨ 400 * g + 400 ≤ 400 * j + k := by omega
                  rw [e11 618 _ (by decide) (by decide) (by decide) (by decide), tr8 _ o1, gr0 618 _ (by decide), lk.1 618 _ (by decide) (by decide) (by decide) (by decide)]
  · rcases p with ⟨p0, p1, p2⟩ | ⟨p0, -⟩
    · rcases q with ⟨q0, q1, q2⟩ | ⟨q0, -⟩ | ⟨h', t, k, g, o, cc, e, M3, M4, M5, ⟨Rb, i, ⟨R1, px, -⟩, -⟩, -⟩
      · rw [q2] at early ⊢
        rw [q2] at rest
        exact ⟨rest (early p2 lr), by omega⟩
      · exact absurd q0.1 hx
      · exact absurd px.2.2.2.2.2.2.2.1.1 hx
    · exact absurd p0.1 hx
end
section
/-! ===== the class: verdict leaves the flows alone ===== -/
noncomputable def OL (T M : jm) : Prop := ∀ (b : Nat) (k : Int), 29 ≤ b → b ≤ 412 → M b k = T b k
noncomputable def O3 (T M : jm) : Prop := ∀ (b : Nat) (k : Int), b ≠ 18 → b ≠ 19 → b ≠ 20 → M b k = T b k
theorem kfl0 : ∀ n : Nat, n < 384 → 1 ≤ kd (29 + n) ∧ kd (29 + n) ≤ 8 := by decide +kernel
theorem kw_fl {W : List (Nat × Nat)} (h : W.all (fun w => Nat.ble 9 w.1) = true) {k : Nat} (hk : k ≤ 8) (i : Int) : kw W k i = false := by
  induction W with
  | nil => rfl
  | cons w r ih =>
    rw [List.all_cons, Bool.and_eq_true] at h
    unfold kw
    rw [ih h.2, Bool.or_false]
    unfold kh
    have a := Nat.le_of_ble_eq_true h.1
    cases e : Nat.beq w.1 k with
    | false => rfl
    | true => have q := Nat.eq_of_beq_eq_true e; omega
theorem OL.f {W : List (Nat × Nat)} {T M : jm} (f : FR W T M) (h : W.all (fun w => Nat.ble 9 w.1) = true) : OL T M := fun b k b0 b1 => by
  have q := kfl0 (b - 29) (by omega)
  rw [show 29 + (b - 29) = b by omega] at q
  exact f b k (kw_fl h q.2 k)
theorem OL.t {T M N : jm} (h : OL T M) (h2 : OL M N) : OL T N := fun b k b0 b1 => (h2 b k b0 b1).trans (h b k b0 b1)
noncomputable def W_c_Flow_describe_o : List (Nat × Nat) := [(1, 1), (1, 2), (2, 1000), (7, 1000)]
theorem c_Flow_describe_o_L57 {A : Nat → Option (Nat × (Nat → Int32))} {Q : Option Value → jm → Prop} {T : jm} {x : Nat} (k_x : kd x = 18) {y : Int} {z : Int} (q : ∀ (M' : jm), CI M' → FR W_c_Flow_describe_o T M' → (O3 T M') → Q none M') : ∀ (nM : Nat) (M : jm) (k : Int) (i : Int), CI M → FR W_c_Flow_describe_o T M → (-2147483648) ≤ y ∧ y ≤ 2147483647 → (-2147483648) ≤ z ∧ z ≤ 2147483647 → (-1) ≤ k ∧ k ≤ 11 → 0 ≤ i ∧ i ≤ 2 → (O3 T M) → 2 - i ≤ nM → jr A 3 xm_57 57 [(2, .int (Int32.ofInt (y))), (3, .int (Int32.ofInt (z))), (4, .int (Int32.ofInt (k))), (5, .int (Int32.ofInt (i))), (0, .ref (18)), (1, .ref (x))] [] M Q := by
  intro nM
  induction nM using Nat.strongRecOn with
  | ind nM ih =>
    intro M k i hC_M ht_M h_y h_z h_k h_i hy0 hm
    refine jr.iload rfl rfl ?_
    refine jr.iconst rfl ?_
    refine jr.icmp_ge rfl rfl (by first | (refine rgb (by assumption) ?_; exact rfl) | omega) (rgl rfl) (fun h60 => ?_) (fun h60 => ?_)
    · exact jr.vreturn rfl rfl (q _ hC_M ht_M  hy0)
    · refine jr.aload_n rfl rfl ?_
      refine jr.getf (i := 3) (v := .ref 19) rfl rfl (nlt rfl) rfl (nlt rfl) rfl rfl rfl rfl ?_
      refine jr.iload rfl rfl ?_
      refine jr.aload_n rfl rfl ?_
      refine jr.iload_n rfl rfl ?_
      refine jr.iload rfl rfl ?_
      refine jr_v rfl rfl (Or.inl rfl) rfl rfl (Nat.lt_trans (kx_18 k_x).1 (by decide)) (kx_18 k_x).2 ⟨rfl, Nat.le_of_ble_eq_true rfl, Nat.le_of_ble_eq_true rfl⟩ rfl (jc.deep (c_Headers_addressOf hC_M k_x (by omega) (by omega) (fun r1 z1  => ?_)) (Nat.le_of_ble_eq_true rfl))
      refine jr.last (i := i) (x := r1) rfl (nlt rfl) rfl (Nat.le_of_ble_eq_true rfl) (by omega) (by omega) ?_
      refine jr.aload_n rfl rfl ?_
      refine jr.getf (i := 4) (v := .ref 20) rfl rfl (nlt rfl) rfl (nlt rfl) rfl rfl rfl rfl ?_
      refine jr.iload rfl rfl ?_
      refine jr.iload rfl rfl ?_
      refine jr.bipush rfl (jbp _ (nlt rfl)) ?_
      refine jr.icmp_ne rfl rfl (by first | (refine rgb (by assumption) ?_; exact rfl) | omega) (rgl rfl) (fun h87 => ?_) (fun h87 => ?_)
      · refine jr.aload_n rfl rfl ?_
        refine jr.iload_n rfl rfl ?_
        refine jr.iload rfl rfl ?_
        refine jr_v rfl rfl (Or.inl rfl) rfl rfl (Nat.lt_trans (kx_18 k_x).1 (by decide)) (kx_18 k_x).2 ⟨rfl, Nat.le_of_ble_eq_true rfl, Nat.le_of_ble_eq_true rfl⟩ rfl (jc.deep (c_Headers_valueOf (CI.u hC_M (i := i) (show kd 19 = 2 from rfl) (show (-9223372036854775808 : Int) ≤ _ ∧ _ ≤ (9223372036854775807 : Int) from by omega) rfl) k_x (by omega) (by omega) (fun r2 z2  => ?_)) (Nat.le_of_ble_eq_true rfl))
        refine jr.l2i rfl ?_
        refine jr.iw (j_w r2) (j_w_eq _) ?_
        have b3 : -2147483648 ≤ j_w r2 ∧ j_w r2 ≤ 2147483647 := jb_any _
        generalize j_w r2 = v3 at b3 ⊢
        refine jr.iast (i := i) (x := v3) rfl (nlt rfl) rfl (Nat.le_of_ble_eq_true rfl) (by omega) (by omega) ?_
        refine jr.iinc (ls' := [_, _, _, _, _, _]) rfl rfl (nlt rfl) rfl ?_
        refine jr.goto rfl rfl ?_
        refine jr.pick (ls := [_, _, _, _, _, _]) [1, 2, 3, 0, 4, 5] rfl rfl ?_
        exact ih (nM - 1) (by omega) ((ju (ju M 19 i r1) 20 i v3)) k (i + 1) (CI.u (CI.u hC_M (i := i) (show kd 19 = 2 from rfl) (show (-9223372036854775808 : Int) ≤ _ ∧ _ ≤ (9223372036854775807 : Int) from by omega) rfl) (i := i) (show kd 20 = 7 from rfl) (show (-2147483648 : Int) ≤ _ ∧ _ ≤ (2147483647 : Int) from by omega) rfl) (FR.o (FR.o ht_M (show kd 19 = 2 from rfl) rfl) (show kd 20 = 7 from rfl) rfl) (by omega) (by omega) (by omega) (by omega) (fun b k b0 b1 b2 => by rw [ju_c _ _ b2, ju_c _ _ b1]; exact hy0 b k b0 b1 b2) (by omega)
      · refine jr.aload_n rfl rfl ?_
        refine jr.iload_n rfl rfl ?_
        refine jr.iconst rfl ?_
        refine jr_v rfl rfl (Or.inl rfl) rfl rfl (Nat.lt_trans (kx_18 k_x).1 (by decide)) (kx_18 k_x).2 ⟨rfl, Nat.le_of_ble_eq_true rfl, Nat.le_of_ble_eq_true rfl⟩ rfl (jc.deep (c_Headers_valueOf (CI.u hC_M (i := i) (show kd 19 = 2 from rfl) (show (-9223372036854775808 : Int) ≤ _ ∧ _ ≤ (9223372036854775807 : Int) from by omega) rfl) k_x (by omega) (by omega) (fun r4 z4  => ?_)) (Nat.le_of_ble_eq_true rfl))
        refine jr.bipush rfl (jbp _ (nlt rfl)) ?_
        refine jr.lushr rfl ?_
        have b5 : -9223372036854775808 ≤ jl_ushr r4 16 ∧ jl_ushr r4 16 ≤ 9223372036854775807 := jbl_any _
        generalize jl_ushr r4 16 = v5 at b5 ⊢
        refine jr.goto rfl rfl ?_
        refine jr.l2i rfl ?_
        refine jr.iw (j_w v5) (j_w_eq _) ?_
        have b6 : -2147483648 ≤ j_w v5 ∧ j_w v5 ≤ 2147483647 := jb_any _
        generalize j_w v5 = v6 at b6 ⊢
        refine jr.iast (i := i) (x := v6) rfl (nlt rfl) rfl (Nat.le_of_ble_eq_true rfl) (by omega) (by omega) ?_
        refine jr.iinc (ls' := [_, _, _, _, _, _]) rfl rfl (nlt rfl) rfl ?_
        refine jr.goto rfl rfl ?_
        refine jr.pick (ls := [_, _, _, _, _, _]) [1, 2, 3, 0, 4, 5] rfl rfl ?_
        exact ih (nM - 1) (by omega) ((ju (ju M 19 i r1) 20 i v6)) k (i + 1) (CI.u (CI.u hC_M (i := i) (show kd 19 = 2 from rfl) (show (-9223372036854775808 : Int) ≤ _ ∧ _ ≤ (9223372036854775807 : Int) from by omega) rfl) (i := i) (show kd 20 = 7 from rfl) (show (-2147483648 : Int) ≤ _ ∧ _ ≤ (2147483647 : Int) from by omega) rfl) (FR.o (FR.o ht_M (show kd 19 = 2 from rfl) rfl) (show kd 20 = 7 from rfl) rfl) (by omega) (by omega) (by omega) (by omega) (fun b k b0 b1 b2 => by rw [ju_c _ _ b2, ju_c _ _ b1]; exact hy0 b k b0 b1 b2) (by omega)
theorem c_Flow_describe_o_L54 {A : Nat → Option (Nat × (Nat → Int32))} {Q : Option Value → jm → Prop} {T : jm} {x : Nat} (k_x : kd x = 18) {y : Int} {z : Int} (q : ∀ (M' : jm), CI M' → FR W_c_Flow_describe_o T M' → (O3 T M') → Q none M') : ∀ (nM : Nat) (M : jm) (k : Int), CI M → FR W_c_Flow_describe_o T M → (-2147483648) ≤ y ∧ y ≤ 2147483647 → (-2147483648) ≤ z ∧ z ≤ 2147483647 → (-1) ≤ k ∧ k ≤ 11 → (O3 T M) → 0 ≤ nM → jr A 3 xm_57 54 [(2, .int (Int32.ofInt (y))), (3, .int (Int32.ofInt (z))), (4, .int (Int32.ofInt (k))), (0, .ref (18)), (1, .ref (x))] [] M Q := by
  intro nM
  induction nM using Nat.strongRecOn with
  | ind nM ih =>
    intro M k hC_M ht_M h_y h_z h_k hy0 hm
    refine jr.iconst rfl ?_
    refine jr.istore (ls' := [_, _, _, _, _, _]) rfl (nlt rfl) rfl ?_
    refine jr.pick (ls := [_, _, _, _, _, _]) [1, 2, 3, 0, 4, 5] rfl rfl ?_
    exact c_Flow_describe_o_L57 k_x q 2 M k 0 hC_M ht_M (by omega) (by omega) (by omega) (by omega) hy0 (by omega)
theorem c_Flow_describe_o {A : Nat → Option (Nat × (Nat → Int32))} {Q : Option Value → jm → Prop} {T : jm} {M : jm} (hC_M : CI M) (ht_M : FR W_c_Flow_describe_o T M) {x : Nat} (k_x : kd x = 18) {y : Int} (h_y : (-2147483648) ≤ y ∧ y ≤ 2147483647) {z : Int} (h_z : (-2147483648) ≤ z ∧ z ≤ 2147483647) (p0 : T = M) (q : ∀ (M' : jm), CI M' → FR W_c_Flow_describe_o T M' → (O3 T M') → Q none M') : jc A 4 57 [.ref (18), .ref (x), .int (Int32.ofInt (y)), .int (Int32.ofInt (z))] M Q := by
  refine jc_of (m := xm_57) rfl (Nat.le_of_ble_eq_true rfl) rfl ?_
  refine jr.aload_n rfl rfl ?_
  refine jr.iload_n rfl rfl ?_
  refine jr_v rfl rfl (Or.inl rfl) rfl rfl (Nat.lt_trans (kx_18 k_x).1 (by decide)) (kx_18 k_x).2 ⟨rfl, Nat.le_of_ble_eq_true rfl, Nat.le_of_ble_eq_true rfl⟩ rfl (jc.deep (c_Headers_kindAt hC_M k_x (by omega) (fun r1 z1 w1_0 w1_1 => ?_)) (Nat.le_of_ble_eq_true rfl))
  refine jr.istore (ls' := [_, _, _, _, _]) rfl (nlt rfl) rfl ?_
  refine jr.aload_n rfl rfl ?_
  refine jr.aload_n rfl rfl ?_
  refine jr.iload_n rfl rfl ?_
  refine jr_v rfl rfl (Or.inl rfl) rfl rfl (Nat.lt_trans (kx_18 k_x).1 (by decide)) (kx_18 k_x).2 ⟨rfl, Nat.le_of_ble_eq_true rfl, Nat.le_of_ble_eq_true rfl⟩ rfl (jc.deep (c_Headers_kindAt hC_M k_x (by omega) (fun r2 z2 w2_0 w2_1 => ?_)) (Nat.le_of_ble_eq_true rfl))
  refine jr.iconst rfl ?_
  refine jr.icmp_ne rfl rfl (by first | (refine rgb (by assumption) ?_; exact rfl) | omega) (rgl rfl) (fun h14 => ?_) (fun h14 => ?_)
  · refine jr.iconst rfl ?_
    refine jr.putf (i := 1) (x := 0) rfl rfl (nlt rfl) rfl (nlt rfl) rfl rfl rfl rfl rfl ?_
    refine jr.aload_n rfl rfl ?_
    refine jr.iload rfl rfl ?_
    refine jr.bipush rfl (jbp _ (nlt rfl)) ?_
    refine jr.icmp_ne rfl rfl (by first | (refine rgb (by assumption) ?_; exact rfl) | omega) (rgl rfl) (fun h30 => ?_) (fun h30 => ?_)
    · refine jr.iload rfl rfl ?_
      refine jr.bipush rfl (jbp _ (nlt rfl)) ?_
      refine jr.icmp_ne rfl rfl (by first | (refine rgb (by assumption) ?_; exact rfl) | omega) (rgl rfl) (fun h41 => ?_) (fun h41 => ?_)
      · refine jr.bipush rfl (jbp _ (nlt rfl)) ?_
        refine jr.putf (i := 2) (x := 17) rfl rfl (nlt rfl) rfl (nlt rfl) rfl rfl rfl rfl rfl ?_
        refine jr.pick (ls := [_, _, _, _, _]) [3, 4, 0, 1, 2] rfl rfl ?_
        exact c_Flow_describe_o_L54 k_x q 0 ((ju (ju M 18 1 0) 18 2 17)) r1 (CI.u (CI.u hC_M (i := 1) (show kd 18 = 1 from rfl) (show (0 : Int) ≤ _ ∧ _ ≤ (1 : Int) from by omega) rfl) (i := 2) (show kd 18 = 1 from rfl) (show (-2147483648 : Int) ≤ _ ∧ _ ≤ (2147483647 : Int) from by omega) rfl) (FR.o (FR.o ht_M (show kd 18 = 1 from rfl) rfl) (show kd 18 = 1 from rfl) rfl) (by omega) (by omega) (by omega) (fun b k b0 _ _ => by rw [ju_c _ _ b0, ju_c _ _ b0, p0]) (by omega)
      · refine jr.bipush rfl (jbp _ (nlt rfl)) ?_
        refine jr.goto rfl rfl ?_
        refine jr.putf (i := 2) (x := 6) rfl rfl (nlt rfl) rfl (nlt rfl) rfl rfl rfl rfl rfl ?_
        refine jr.pick (ls := [_, _, _, _, _]) [3, 4, 0, 1, 2] rfl rfl ?_
        exact c_Flow_describe_o_L54 k_x q 0 ((ju (ju M 18 1 0) 18 2 6)) r1 (CI.u (CI.u hC_M (i := 1) (show kd 18 = 1 from rfl) (show (0 : Int) ≤ _ ∧ _ ≤ (1 : Int) from by omega) rfl) (i := 2) (show kd 18 = 1 from rfl) (show (-2147483648 : Int) ≤ _ ∧ _ ≤ (2147483647 : Int) from by omega) rfl) (FR.o (FR.o ht_M (show kd 18 = 1 from rfl) rfl) (show kd 18 = 1 from rfl) rfl) (by omega) (by omega) (by omega) (fun b k b0 _ _ => by rw [ju_c _ _ b0, ju_c _ _ b0, p0]) (by omega)
    · refine jr.iconst rfl ?_
      refine jr.goto rfl rfl ?_
      refine jr.putf (i := 2) (x := 1) rfl rfl (nlt rfl) rfl (nlt rfl) rfl rfl rfl rfl rfl ?_
      refine jr.pick (ls := [_, _, _, _, _]) [3, 4, 0, 1, 2] rfl rfl ?_
      exact c_Flow_describe_o_L54 k_x q 0 ((ju (ju M 18 1 0) 18 2 1)) r1 (CI.u (CI.u hC_M (i := 1) (show kd 18 = 1 from rfl) (show (0 : Int) ≤ _ ∧ _ ≤ (1 : Int) from by omega) rfl) (i := 2) (show kd 18 = 1 from rfl) (show (-2147483648 : Int) ≤ _ ∧ _ ≤ (2147483647 : Int) from by omega) rfl) (FR.o (FR.o ht_M (show kd 18 = 1 from rfl) rfl) (show kd 18 = 1 from rfl) rfl) (by omega) (by omega) (by omega) (fun b k b0 _ _ => by rw [ju_c _ _ b0, ju_c _ _ b0, p0]) (by omega)
  · refine jr.iconst rfl ?_
    refine jr.goto rfl rfl ?_
    refine jr.putf (i := 1) (x := 1) rfl rfl (nlt rfl) rfl (nlt rfl) rfl rfl rfl rfl rfl ?_
    refine jr.aload_n rfl rfl ?_
    refine jr.iload rfl rfl ?_
    refine jr.bipush rfl (jbp _ (nlt rfl)) ?_
    refine jr.icmp_ne rfl rfl (by first | (refine rgb (by assumption) ?_; exact rfl) | omega) (rgl rfl) (fun h30 => ?_) (fun h30 => ?_)
    · refine jr.iload rfl rfl ?_
      refine jr.bipush rfl (jbp _ (nlt rfl)) ?_
      refine jr.icmp_ne rfl rfl (by first | (refine rgb (by assumption) ?_; exact rfl) | omega) (rgl rfl) (fun h41 => ?_) (fun h41 => ?_)
      · refine jr.bipush rfl (jbp _ (nlt rfl)) ?_
        refine jr.putf (i := 2) (x := 17) rfl rfl (nlt rfl) rfl (nlt rfl) rfl rfl rfl rfl rfl ?_
        refine jr.pick (ls := [_, _, _, _, _]) [3, 4, 0, 1, 2] rfl rfl ?_
        exact c_Flow_describe_o_L54 k_x q 0 ((ju (ju M 18 1 1) 18 2 17)) r1 (CI.u (CI.u hC_M (i := 1) (show kd 18 = 1 from rfl) (show (0 : Int) ≤ _ ∧ _ ≤ (1 : Int) from by omega) rfl) (i := 2) (show kd 18 = 1 from rfl) (show (-2147483648 : Int) ≤ _ ∧ _ ≤ (2147483647 : Int) from by omega) rfl) (FR.o (FR.o ht_M (show kd 18 = 1 from rfl) rfl) (show kd 18 = 1 from rfl) rfl) (by omega) (by omega) (by omega) (fun b k b0 _ _ => by rw [ju_c _ _ b0, ju_c _ _ b0, p0]) (by omega)
      · refine jr.bipush rfl (jbp _ (nlt rfl)) ?_
        refine jr.goto rfl rfl ?_
        refine jr.putf (i := 2) (x := 6) rfl rfl (nlt rfl) rfl (nlt rfl) rfl rfl rfl rfl rfl ?_
        refine jr.pick (ls := [_, _, _, _, _]) [3, 4, 0, 1, 2] rfl rfl ?_
        exact c_Flow_describe_o_L54 k_x q 0 ((ju (ju M 18 1 1) 18 2 6)) r1 (CI.u (CI.u hC_M (i := 1) (show kd 18 = 1 from rfl) (show (0 : Int) ≤ _ ∧ _ ≤ (1 : Int) from by omega) rfl) (i := 2) (show kd 18 = 1 from rfl) (show (-2147483648 : Int) ≤ _ ∧ _ ≤ (2147483647 : Int) from by omega) rfl) (FR.o (FR.o ht_M (show kd 18 = 1 from rfl) rfl) (show kd 18 = 1 from rfl) rfl) (by omega) (by omega) (by omega) (fun b k b0 _ _ => by rw [ju_c _ _ b0, ju_c _ _ b0, p0]) (by omega)
    · refine jr.iconst rfl ?_
      refine jr.goto rfl rfl ?_
      refine jr.putf (i := 2) (x := 1) rfl rfl (nlt rfl) rfl (nlt rfl) rfl rfl rfl rfl rfl ?_
      refine jr.pick (ls := [_, _, _, _, _]) [3, 4, 0, 1, 2] rfl rfl ?_
      exact c_Flow_describe_o_L54 k_x q 0 ((ju (ju M 18 1 1) 18 2 1)) r1 (CI.u (CI.u hC_M (i := 1) (show kd 18 = 1 from rfl) (show (0 : Int) ≤ _ ∧ _ ≤ (1 : Int) from by omega) rfl) (i := 2) (show kd 18 = 1 from rfl) (show (-2147483648 : Int) ≤ _ ∧ _ ≤ (2147483647 : Int) from by omega) rfl) (FR.o (FR.o ht_M (show kd 18 = 1 from rfl) rfl) (show kd 18 = 1 from rfl) rfl) (by omega) (by omega) (by omega) (fun b k b0 _ _ => by rw [ju_c _ _ b0, ju_c _ _ b0, p0]) (by omega)
noncomputable def W_c_Flows_findEnds_o : List (Nat × Nat) := [(1, 1), (1, 2), (2, 1000), (7, 1000), (9, 3), (9, 4), (9, 5)]
theorem c_Flows_findEnds_o {A : Nat → Option (Nat × (Nat → Int32))} {Q : Option Value → jm → Prop} {T : jm} {M : jm} (hC_M : CI M) (ht_M : FR W_c_Flows_findEnds_o T M) {x : Nat} (k_x : kd x = 18) (p0 : T = M) (q : ∀ (r : Int) (M' : jm), CI M' → FR W_c_Flows_findEnds_o T M' → 0 ≤ r ∧ r ≤ 1 → (OL T M') → Q (some (.int (Int32.ofInt r))) M') : jc A 5 89 [.ref (15), .ref (x)] M Q := by
  refine jc_of (m := xm_89) rfl (Nat.le_of_ble_eq_true rfl) rfl ?_
  refine jr.aload_n rfl rfl ?_
  refine jr.iconst rfl ?_
  refine jr.putf (i := 5) (x := 0) rfl rfl (nlt rfl) rfl (nlt rfl) rfl rfl rfl rfl rfl ?_
  refine jr.aload_n rfl rfl ?_
  refine jr.aload_n rfl rfl ?_
  refine jr.bipush rfl (jbp _ (nlt rfl)) ?_
  refine jr_v rfl rfl (Or.inl rfl) rfl rfl (Nat.lt_trans (kx_18 k_x).1 (by decide)) (kx_18 k_x).2 ⟨rfl, Nat.le_of_ble_eq_true rfl, Nat.le_of_ble_eq_true rfl⟩ rfl (jc.deep (c_Headers_firstOf (CI.u hC_M (i := 5) (show kd 15 = 9 from rfl) (show (0 : Int) ≤ _ ∧ _ ≤ (1 : Int) from by omega) rfl) k_x (by omega) (fun r1 z1 w1_0 => ?_)) (Nat.le_of_ble_eq_true rfl))
  refine jr.putf (i := 3) (x := r1) rfl rfl (nlt rfl) rfl (nlt rfl) rfl rfl rfl rfl rfl ?_
  refine jr.aload_n rfl rfl ?_
  obtain ⟨v2, e2⟩ : ∃ z_, M x 4 = z_ := ⟨_, rfl⟩
  have b2 : (-2147483648) ≤ v2 ∧ v2 ≤ 2147483647 := by rw [← e2]; exact (CI.r hC_M k_x (by decide) 4)
  refine jr.getf (i := 4) (x := v2) (v := .int (Int32.ofInt (v2))) rfl rfl (Nat.lt_trans (kx_18 k_x).1 (by decide)) (kx_18 k_x).2 (by decide) rfl rfl ((ju_i _ _ (zne (by decide))).trans ((ju_i _ _ (zne (by decide))).trans e2)) rfl ?_
  refine jr.if_ne rfl rfl (by first | (refine rgb (by assumption) ?_; exact rfl) | omega) (fun h19 => ?_) (fun h19 => ?_)
  · refine jr.iconst rfl ?_
    exact jr.ireturn rfl rfl rfl (q _ _ (CI.u (CI.u hC_M (i := 5) (show kd 15 = 9 from rfl) (show (0 : Int) ≤ _ ∧ _ ≤ (1 : Int) from by omega) rfl) (i := 3) (show kd 15 = 9 from rfl) (show (-2147483648 : Int) ≤ _ ∧ _ ≤ (2147483647 : Int) from by omega) rfl) (FR.o (FR.o ht_M (show kd 15 = 9 from rfl) rfl) (show kd 15 = 9 from rfl) rfl) (by omega) (fun b k b0 b1 => by rw [ju_c _ _ (show b ≠ 15 by omega), ju_c _ _ (show b ≠ 15 by omega), p0]))
  · refine jr.aload_n rfl rfl ?_
    refine jr.getf (i := 3) (x := r1) (v := .int (Int32.ofInt (r1))) rfl rfl (nlt rfl) rfl (nlt rfl) rfl rfl (ju_same _ _ _ _) rfl ?_
    refine jr.iconst rfl ?_
    refine jr.icmp_eq rfl rfl (by first | (refine rgb (by assumption) ?_; exact rfl) | omega) (rgl rfl) (fun h27 => ?_) (fun h27 => ?_)
    · refine jr.iconst rfl ?_
      exact jr.ireturn rfl rfl rfl (q _ _ (CI.u (CI.u hC_M (i := 5) (show kd 15 = 9 from rfl) (show (0 : Int) ≤ _ ∧ _ ≤ (1 : Int) from by omega) rfl) (i := 3) (show kd 15 = 9 from rfl) (show (-2147483648 : Int) ≤ _ ∧ _ ≤ (2147483647 : Int) from by omega) rfl) (FR.o (FR.o ht_M (show kd 15 = 9 from rfl) rfl) (show kd 15 = 9 from rfl) rfl) (by omega) (fun b k b0 b1 => by rw [ju_c _ _ (show b ≠ 15 by omega), ju_c _ _ (show b ≠ 15 by omega), p0]))
    · have sx27 : (0 : Int) ≤ r1 := by omega
      clear h27
      refine jr.aload_n rfl rfl ?_
      refine jr_v rfl rfl (Or.inl rfl) rfl rfl (Nat.lt_trans (kx_18 k_x).1 (by decide)) (kx_18 k_x).2 ⟨rfl, Nat.le_of_ble_eq_true rfl, Nat.le_of_ble_eq_true rfl⟩ rfl (jc.deep (c_Headers_pieceHeader (CI.u (CI.u hC_M (i := 5) (show kd 15 = 9 from rfl) (show (0 : Int) ≤ _ ∧ _ ≤ (1 : Int) from by omega) rfl) (i := 3) (show kd 15 = 9 from rfl) (show (-2147483648 : Int) ≤ _ ∧ _ ≤ (2147483647 : Int) from by omega) rfl) k_x (fun r3 z3 w3_0 => ?_)) (Nat.le_of_ble_eq_true rfl))
      refine jr.iconst rfl ?_
      refine jr.icmp_eq rfl rfl (by first | (refine rgb (by assumption) ?_; exact rfl) | omega) (rgl rfl) (fun h35 => ?_) (fun h35 => ?_)
      · refine jr.aload_n rfl rfl ?_
        refine jr.aload_n rfl rfl ?_
        refine jr.aload_n rfl rfl ?_
        refine jr.getf (i := 3) (x := r1) (v := .int (Int32.ofInt (r1))) rfl rfl (nlt rfl) rfl (nlt rfl) rfl rfl (ju_same _ _ _ _) rfl ?_
        refine jr_v rfl rfl (Or.inl rfl) rfl rfl (Nat.lt_trans (kx_18 k_x).1 (by decide)) (kx_18 k_x).2 ⟨rfl, Nat.le_of_ble_eq_true rfl, Nat.le_of_ble_eq_true rfl⟩ rfl (jc.deep (c_Headers_innerOf (CI.u (CI.u hC_M (i := 5) (show kd 15 = 9 from rfl) (show (0 : Int) ≤ _ ∧ _ ≤ (1 : Int) from by omega) rfl) (i := 3) (show kd 15 = 9 from rfl) (show (-2147483648 : Int) ≤ _ ∧ _ ≤ (2147483647 : Int) from by omega) rfl) k_x (by omega) (fun r4 z4 w4_0 => ?_)) (Nat.le_of_ble_eq_true rfl))
        refine jr.putf (i := 4) (x := r4) rfl rfl (nlt rfl) rfl (nlt rfl) rfl rfl rfl rfl rfl ?_
        refine jr.aload_n rfl rfl ?_
        refine jr.aload_n rfl rfl ?_
        refine jr.getf (i := 4) (x := r4) (v := .int (Int32.ofInt (r4))) rfl rfl (nlt rfl) rfl (nlt rfl) rfl rfl (ju_same _ _ _ _) rfl ?_
        refine jr_v rfl rfl (Or.inl rfl) rfl rfl (Nat.lt_trans (kx_18 k_x).1 (by decide)) (kx_18 k_x).2 ⟨rfl, Nat.le_of_ble_eq_true rfl, Nat.le_of_ble_eq_true rfl⟩ rfl (jc.deep (c_Headers_kindAt (CI.u (CI.u (CI.u hC_M (i := 5) (show kd 15 = 9 from rfl) (show (0 : Int) ≤ _ ∧ _ ≤ (1 : Int) from by omega) rfl) (i := 3) (show kd 15 = 9 from rfl) (show (-2147483648 : Int) ≤ _ ∧ _ ≤ (2147483647 : Int) from by omega) rfl) (i := 4) (show kd 15 = 9 from rfl) (show (-2147483648 : Int) ≤ _ ∧ _ ≤ (2147483647 : Int) from by omega) rfl) k_x (by omega) (fun r5 z5 w5_0 w5_1 => ?_)) (Nat.le_of_ble_eq_true rfl))
        refine jr_s rfl rfl (Or.inr rfl) ⟨Nat.le_of_ble_eq_true rfl, Nat.le_of_ble_eq_true rfl⟩ rfl rfl (jc.deep (c_PacketWall_isCarriedKind (CI.u (CI.u (CI.u hC_M (i := 5) (show kd 15 = 9 from rfl) (show (0 : Int) ≤ _ ∧ _ ≤ (1 : Int) from by omega) rfl) (i := 3) (show kd 15 = 9 from rfl) (show (-2147483648 : Int) ≤ _ ∧ _ ≤ (2147483647 : Int) from by omega) rfl) (i := 4) (show kd 15 = 9 from rfl) (show (-2147483648 : Int) ≤ _ ∧ _ ≤ (2147483647 : Int) from by omega) rfl) (by omega) (fun r6 z6 w6_0 => ?_)) (Nat.le_of_ble_eq_true rfl))
        refine jr.if_ne rfl rfl (by first | (refine rgb (by assumption) ?_; exact rfl) | omega) (fun h63 => ?_) (fun h63 => ?_)
        · have sx63 : (1 : Int) ≤ r6 := by omega
          clear h63
          refine jr.aload_n rfl rfl ?_
          refine jr.aload_n rfl rfl ?_
          refine jr.aload_n rfl rfl ?_
          refine jr_v rfl rfl (Or.inl rfl) rfl rfl (nlt rfl) rfl ⟨rfl, Nat.le_of_ble_eq_true rfl, Nat.le_of_ble_eq_true rfl⟩ rfl (jc.deep (c_Flows_isQuoting (CI.u (CI.u (CI.u hC_M (i := 5) (show kd 15 = 9 from rfl) (show (0 : Int) ≤ _ ∧ _ ≤ (1 : Int) from by omega) rfl) (i := 3) (show kd 15 = 9 from rfl) (show (-2147483648 : Int) ≤ _ ∧ _ ≤ (2147483647 : Int) from by omega) rfl) (i := 4) (show kd 15 = 9 from rfl) (show (-2147483648 : Int) ≤ _ ∧ _ ≤ (2147483647 : Int) from by omega) rfl) k_x (fun r7 z7  => ?_)) (Nat.le_of_ble_eq_true rfl))
          refine jr.putf (i := 5) (x := r7) rfl rfl (nlt rfl) rfl (nlt rfl) rfl rfl rfl (j_zr (by omega)) (j_fz (by omega)) ?_
          refine jr.aload_n rfl rfl ?_
          refine jr.getf (i := 5) (x := r7) (v := .int (Int32.ofInt (r7))) rfl rfl (nlt rfl) rfl (nlt rfl) rfl rfl (ju_same _ _ _ _) rfl ?_
          refine jr.if_eq rfl rfl (by first | (refine rgb (by assumption) ?_; exact rfl) | omega) (fun h81 => ?_) (fun h81 => ?_)
          · refine jr.aload_n rfl rfl ?_
            refine jr.getf (i := 2) (v := .ref 18) rfl rfl (nlt rfl) rfl (nlt rfl) rfl rfl rfl rfl ?_
            refine jr.aload_n rfl rfl ?_
            refine jr.aload_n rfl rfl ?_
            refine jr.getf (i := 3) (x := r1) (v := .int (Int32.ofInt (r1))) rfl rfl (nlt rfl) rfl (nlt rfl) rfl rfl ((ju_i _ _ (zne (by decide))).trans ((ju_i _ _ (zne (by decide))).trans (ju_same _ _ _ _))) rfl ?_
            refine jr.aload_n rfl rfl ?_
            refine jr.getf (i := 4) (x := r4) (v := .int (Int32.ofInt (r4))) rfl rfl (nlt rfl) rfl (nlt rfl) rfl rfl ((ju_i _ _ (zne (by decide))).trans (ju_same _ _ _ _)) rfl ?_
            refine jr_v rfl rfl (Or.inl rfl) rfl rfl (nlt rfl) rfl ⟨rfl, Nat.le_of_ble_eq_true rfl, Nat.le_of_ble_eq_true rfl⟩ rfl (jc.deep (c_Flow_describe_o (CI.u (CI.u (CI.u (CI.u hC_M (i := 5) (show kd 15 = 9 from rfl) (show (0 : Int) ≤ _ ∧ _ ≤ (1 : Int) from by omega) rfl) (i := 3) (show kd 15 = 9 from rfl) (show (-2147483648 : Int) ≤ _ ∧ _ ≤ (2147483647 : Int) from by omega) rfl) (i := 4) (show kd 15 = 9 from rfl) (show (-2147483648 : Int) ≤ _ ∧ _ ≤ (2147483647 : Int) from by omega) rfl) (i := 5) (show kd 15 = 9 from rfl) (show (0 : Int) ≤ _ ∧ _ ≤ (1 : Int) from by omega) rfl) (FR.rfl _ ((ju (ju (ju (ju M 15 5 0) 15 3 r1) 15 4 r4) 15 5 r7))) k_x (by omega) (by omega) rfl (fun M8 hC_M8 hf_M8 w8_0 => ?_)) (Nat.le_of_ble_eq_true rfl))
            have ht_M8 : FR W_c_Flows_findEnds_o T M8 := FR.t (FR.o (FR.o (FR.o (FR.o ht_M (show kd 15 = 9 from rfl) rfl) (show kd 15 = 9 from rfl) rfl) (show kd 15 = 9 from rfl) rfl) (show kd 15 = 9 from rfl) rfl) hf_M8 (kw_sub rfl)
            refine jr.iconst rfl ?_
            exact jr.ireturn rfl rfl rfl (q _ _ hC_M8 ht_M8 (by first | exact rgq rfl | omega) (fun b k b0 b1 => by rw [w8_0 b k (by omega) (by omega) (by omega), ju_c _ _ (show b ≠ 15 by omega), ju_c _ _ (show b ≠ 15 by omega), ju_c _ _ (show b ≠ 15 by omega), ju_c _ _ (show b ≠ 15 by omega), p0]))
          · have sx81 : (1 : Int) ≤ r7 := by omega
            clear h81
            refine jr.aload_n rfl rfl ?_
            refine jr.getf (i := 2) (v := .ref 18) rfl rfl (nlt rfl) rfl (nlt rfl) rfl rfl rfl rfl ?_
            refine jr.aload_n rfl rfl ?_
            refine jr.aload_n rfl rfl ?_
            refine jr.getf (i := 4) (x := r4) (v := .int (Int32.ofInt (r4))) rfl rfl (nlt rfl) rfl (nlt rfl) rfl rfl ((ju_i _ _ (zne (by decide))).trans (ju_same _ _ _ _)) rfl ?_
            refine jr.iconst rfl ?_
            refine jr.iadd rfl ?_
            refine jr.aload_n rfl rfl ?_
            refine jr.getf (i := 4) (x := r4) (v := .int (Int32.ofInt (r4))) rfl rfl (nlt rfl) rfl (nlt rfl) rfl rfl ((ju_i _ _ (zne (by decide))).trans (ju_same _ _ _ _)) rfl ?_
            refine jr.iconst rfl ?_
            refine jr.iadd rfl ?_
            refine jr_v rfl rfl (Or.inl rfl) rfl rfl (nlt rfl) rfl ⟨rfl, Nat.le_of_ble_eq_true rfl, Nat.le_of_ble_eq_true rfl⟩ rfl (jc.deep (c_Flow_describe_o (CI.u (CI.u (CI.u (CI.u hC_M (i := 5) (show kd 15 = 9 from rfl) (show (0 : Int) ≤ _ ∧ _ ≤ (1 : Int) from by omega) rfl) (i := 3) (show kd 15 = 9 from rfl) (show (-2147483648 : Int) ≤ _ ∧ _ ≤ (2147483647 : Int) from by omega) rfl) (i := 4) (show kd 15 = 9 from rfl) (show (-2147483648 : Int) ≤ _ ∧ _ ≤ (2147483647 : Int) from by omega) rfl) (i := 5) (show kd 15 = 9 from rfl) (show (0 : Int) ≤ _ ∧ _ ≤ (1 : Int) from by omega) rfl) (FR.rfl _ ((ju (ju (ju (ju M 15 5 0) 15 3 r1) 15 4 r4) 15 5 r7))) k_x (by omega) (by omega) rfl (fun M9 hC_M9 hf_M9 w9_0 => ?_)) (Nat.le_of_ble_eq_true rfl))
            have ht_M9 : FR W_c_Flows_findEnds_o T M9 := FR.t (FR.o (FR.o (FR.o (FR.o ht_M (show kd 15 = 9 from rfl) rfl) (show kd 15 = 9 from rfl) rfl) (show kd 15 = 9 from rfl) rfl) (show kd 15 = 9 from rfl) rfl) hf_M9 (kw_sub rfl)
            refine jr.goto rfl rfl ?_
            refine jr.iconst rfl ?_
            exact jr.ireturn rfl rfl rfl (q _ _ hC_M9 ht_M9 (by first | exact rgq rfl | omega) (fun b k b0 b1 => by rw [w9_0 b k (by omega) (by omega) (by omega), ju_c _ _ (show b ≠ 15 by omega), ju_c _ _ (show b ≠ 15 by omega), ju_c _ _ (show b ≠ 15 by omega), ju_c _ _ (show b ≠ 15 by omega), p0]))
        · refine jr.iconst rfl ?_
          exact jr.ireturn rfl rfl rfl (q _ _ (CI.u (CI.u (CI.u hC_M (i := 5) (show kd 15 = 9 from rfl) (show (0 : Int) ≤ _ ∧ _ ≤ (1 : Int) from by omega) rfl) (i := 3) (show kd 15 = 9 from rfl) (show (-2147483648 : Int) ≤ _ ∧ _ ≤ (2147483647 : Int) from by omega) rfl) (i := 4) (show kd 15 = 9 from rfl) (show (-2147483648 : Int) ≤ _ ∧ _ ≤ (2147483647 : Int) from by omega) rfl) (FR.o (FR.o (FR.o ht_M (show kd 15 = 9 from rfl) rfl) (show kd 15 = 9 from rfl) rfl) (show kd 15 = 9 from rfl) rfl) (by omega) (fun b k b0 b1 => by rw [ju_c _ _ (show b ≠ 15 by omega), ju_c _ _ (show b ≠ 15 by omega), ju_c _ _ (show b ≠ 15 by omega), p0]))
      · have sx35 : (0 : Int) ≤ r3 := by omega
        clear h35
        refine jr.iconst rfl ?_
        exact jr.ireturn rfl rfl rfl (q _ _ (CI.u (CI.u hC_M (i := 5) (show kd 15 = 9 from rfl) (show (0 : Int) ≤ _ ∧ _ ≤ (1 : Int) from by omega) rfl) (i := 3) (show kd 15 = 9 from rfl) (show (-2147483648 : Int) ≤ _ ∧ _ ≤ (2147483647 : Int) from by omega) rfl) (FR.o (FR.o ht_M (show kd 15 = 9 from rfl) rfl) (show kd 15 = 9 from rfl) rfl) (by omega) (fun b k b0 b1 => by rw [ju_c _ _ (show b ≠ 15 by omega), ju_c _ _ (show b ≠ 15 by omega), p0]))
noncomputable def W_c_Flows_flowOf_o : List (Nat × Nat) := [(1, 1), (1, 2), (2, 1000), (7, 1000), (9, 3), (9, 4), (9, 5)]
theorem c_Flows_flowOf_o {A : Nat → Option (Nat × (Nat → Int32))} {Q : Option Value → jm → Prop} {T : jm} {M : jm} (hC_M : CI M) (ht_M : FR W_c_Flows_flowOf_o T M) {x : Nat} (k_x : kd x = 18) (p0 : T = M) (q : ∀ (r : Int) (M' : jm), CI M' → FR W_c_Flows_flowOf_o T M' → (-2147483648) ≤ r ∧ r ≤ 2147483647 → (OL T M') → Q (some (.int (Int32.ofInt r))) M') : jc A 6 78 [.ref (15), .ref (x)] M Q := by
  refine jc_of (m := xm_78) rfl (Nat.le_of_ble_eq_true rfl) rfl ?_
  refine jr.aload_n rfl rfl ?_
  refine jr.aload_n rfl rfl ?_
  refine jr_v rfl rfl (Or.inl rfl) rfl rfl (nlt rfl) rfl ⟨rfl, Nat.le_of_ble_eq_true rfl, Nat.le_of_ble_eq_true rfl⟩ rfl (jc.deep (c_Flows_findEnds_o hC_M (FR.rfl _ M) k_x rfl (fun r1 M1 hC_M1 hf_M1 z1 w1_0 => ?_)) (Nat.le_of_ble_eq_true rfl))
  have ht_M1 : FR W_c_Flows_flowOf_o T M1 := FR.t ht_M hf_M1 (kw_sub rfl)
  refine jr.if_eq rfl rfl (by first | (refine rgb (by assumption) ?_; exact rfl) | omega) (fun h5 => ?_) (fun h5 => ?_)
  · refine jr.iconst rfl ?_
    exact jr.ireturn rfl rfl rfl (q _ _ hC_M1 ht_M1 (by first | exact rgq rfl | omega) (by rw [p0]; exact w1_0))
  · have sx5 : (1 : Int) ≤ r1 := by omega
    clear h5
    refine jr.aload_n rfl rfl ?_
    obtain ⟨v3, e3⟩ : ∃ z_, M 15 0 = z_ := ⟨_, rfl⟩
    have b3 : 16 ≤ v3 ∧ v3 ≤ 17 := by rw [← e3]; exact (CI.r hC_M (show kd 15 = 9 from rfl) (by decide) 0)
    have e4 : M1 15 0 = v3 := (hf_M1.g (show kd 15 = 9 from rfl) rfl).trans e3
    refine jr_v rfl rfl (Or.inl rfl) rfl rfl (nlt rfl) rfl ⟨rfl, Nat.le_of_ble_eq_true rfl, Nat.le_of_ble_eq_true rfl⟩ rfl (jc.deep (c_Flows_flowOfEnds hC_M1  e4 (fun r2 z2 w2_0 => ?_)) (Nat.le_of_ble_eq_true rfl))
    refine jr.goto rfl rfl ?_
    exact jr.ireturn rfl rfl rfl (q _ _ hC_M1 ht_M1 (by omega) (by rw [p0]; exact w1_0))
noncomputable def W_c_PacketWall_verdict_o : List (Nat × Nat) := [(1, 1), (1, 2), (2, 1000), (7, 1000), (9, 3), (9, 4), (9, 5), (14, 0), (14, 1), (14, 2), (18, 3), (18, 4), (18, 5), (18, 6), (18, 7), (19, 1000), (20, 1000), (21, 1000), (22, 3), (22, 4), (22, 5), (22, 7), (22, 9), (22, 11), (22, 12), (22, 13), (22, 14), (22, 15), (22, 16), (22, 17), (22, 18), (22, 19), (24, 1000), (26, 1000), (27, 5), (27, 6), (28, 1000), (29, 1000), (30, 1000), (31, 1000), (32, 1000), (33, 2), (52, 0), (52, 1), (53, 1000), (54, 1000)]
theorem c_PacketWall_verdict_o {A : Nat → Option (Nat × (Nat → Int32))} {Q : Option Value → jm → Prop} {L : Int} {T : jm} {M : jm} (hC_M : CI M) (ht_M : FR W_c_PacketWall_verdict_o T M) {x : Int} (h_x : (-2147483648) ≤ x ∧ x ≤ 2147483647) (p0 : 0 ≤ M 421 4 ∧ M 421 4 ≤ 0) (p1 : LC M L) (p2 : L + 1000000 ≤ 2000000000) (p3 : PC M ) (p4 : T = M) (q : ∀ (r : Int) (M' : jm), CI M' → FR W_c_PacketWall_verdict_o T M' → (-2147483648) ≤ r ∧ r ≤ 2147483647 → (LC M' (L + 1000000)) → (0 ≤ M' 421 4 ∧ M' 421 4 ≤ 0) → (OL T M') → Q (some (.int (Int32.ofInt r))) M') : jc A 8 28 [.ref (0), .int (Int32.ofInt (x))] M Q := by
  refine jc_of (m := xm_28) rfl (Nat.le_of_ble_eq_true rfl) rfl ?_
  obtain ⟨v1, e1⟩ : ∃ z_, M 421 4 = z_ := ⟨_, rfl⟩
  have b1 : 0 ≤ v1 ∧ v1 ≤ 1 := by rw [← e1]; exact (CI.r hC_M (show kd 421 = 22 from rfl) (by decide) 4)
  have b2 : 0 ≤ v1 ∧ v1 ≤ 0 := by rw [← e1]; exact p0
  refine jr.iload_n rfl rfl ?_
  refine jr.if_lt rfl rfl (by first | (refine rgb (by assumption) ?_; exact rfl) | omega) (fun h1 => ?_) (fun h1 => ?_)
  · refine jr.bipush rfl (by decide) ?_
    exact jr.ireturn rfl rfl rfl (q _ _ hC_M ht_M (by first | exact rgq rfl | omega) (LC.le p1 (by omega)) (by have hq0 : M 421 4 = v1 := e1; omega) (fun b k _ _ => by rw [p4]))
  · refine jr.iload_n rfl rfl ?_
    refine jr.bipush rfl (jbp _ (nlt rfl)) ?_
    refine jr.icmp_lt rfl rfl (by first | (refine rgb (by assumption) ?_; exact rfl) | omega) (rgl rfl) (fun h7 => ?_) (fun h7 => ?_)
    · refine jr.aload_n rfl rfl ?_
      refine jr.getf (i := 11) (v := .ref 421) rfl rfl (nlt rfl) rfl (nlt rfl) rfl rfl rfl rfl ?_
      obtain ⟨v3, e3⟩ : ∃ z_, M 421 2 = z_ := ⟨_, rfl⟩
      have b3 : 0 ≤ v3 ∧ v3 ≤ 597 := by rw [← e3]; exact (CI.r hC_M (show kd 421 = 22 from rfl) (by decide) 2)
      have k4 : kd (v3).toNat = 47 := ((congrArg (fun z : Int => kd z.toNat) (show M 421 2 = v3 from e3)).symm.trans (CI.x hC_M (show kd 421 = 22 from rfl) 2 rfl (by decide)))
      refine jr.getf (i := 2) (x := v3) (v := .ref (v3.toNat)) rfl rfl (nlt rfl) rfl (nlt rfl) rfl rfl e3 rfl ?_
      obtain ⟨v5, e5⟩ : ∃ z_, M ((v3.toNat)) 3 = z_ := ⟨_, rfl⟩
      have b5 : 0 ≤ v5 ∧ v5 ≤ 16 := by rw [← e5]; exact (CI.r hC_M k4 (by decide) 3)
      refine jr.getf (i := 3) (x := v5) (v := .int (Int32.ofInt (v5))) rfl rfl (Nat.lt_trans (kx_47 k4).1 (by decide)) (kx_47 k4).2 (by decide) rfl rfl e5 rfl ?_
      refine jr.if_eq rfl rfl (by first | (refine rgb (by assumption) ?_; exact rfl) | omega) (fun h23 => ?_) (fun h23 => ?_)
      · refine jr.bipush rfl (by decide) ?_
        exact jr.ireturn rfl rfl rfl (q _ _ hC_M ht_M (by first | exact rgq rfl | omega) (LC.le p1 (by omega)) (by have hq0 : M 421 4 = v1 := e1; omega) (fun b k _ _ => by rw [p4]))
      · have sx23 : (1 : Int) ≤ v5 := by omega
        clear h23
        refine jr.aload_n rfl rfl ?_
        refine jr.getf (i := 11) (v := .ref 421) rfl rfl (nlt rfl) rfl (nlt rfl) rfl rfl rfl rfl ?_
        refine jr_v rfl rfl (Or.inl rfl) rfl rfl (nlt rfl) rfl ⟨rfl, Nat.le_of_ble_eq_true rfl, Nat.le_of_ble_eq_true rfl⟩ rfl (jc.deep (c_Machine_hasNoFailureLeft hC_M  (fun r6 z6  => ?_)) (Nat.le_of_ble_eq_true rfl))
        refine jr.if_eq rfl rfl (by first | (refine rgb (by assumption) ?_; exact rfl) | omega) (fun h33 => ?_) (fun h33 => ?_)
        · refine jr.aload_n rfl rfl ?_
          refine jr.getf (i := 3) (v := .ref 3) rfl rfl (nlt rfl) rfl (nlt rfl) rfl rfl rfl rfl ?_
          refine jr.aload_n rfl rfl ?_
          refine jr.getf (i := 2) (v := .ref 2) rfl rfl (nlt rfl) rfl (nlt rfl) rfl rfl rfl rfl ?_
          refine jr.iload_n rfl rfl ?_
          have k7 := kxe_42 (a := 2) rfl (i := x) (by omega) (by omega)
          refine jr.aald (c := (xe 2 x)) rfl (by decide) rfl (by decide) (by decide) rfl (by decide) (by omega) (by omega) k7.1 ?_
          refine jr_v rfl rfl (Or.inl rfl) rfl rfl (nlt rfl) rfl ⟨rfl, Nat.le_of_ble_eq_true rfl, Nat.le_of_ble_eq_true rfl⟩ rfl (jc.deep (c_Headers_readAll hC_M (FR.rfl _ M) (show kd 3 = 18 from rfl) k7.2 (fun M8 hC_M8 hf_M8 w8_0 => ?_)) (Nat.le_of_ble_eq_true rfl))
          have ht_M8 : FR W_c_PacketWall_verdict_o T M8 := FR.t ht_M hf_M8 (kw_sub rfl)
          refine jr.aload_n rfl rfl ?_
          refine jr.getf (i := 9) (v := .ref 15) rfl rfl (nlt rfl) rfl (nlt rfl) rfl rfl rfl rfl ?_
          refine jr.aload_n rfl rfl ?_
          refine jr.getf (i := 3) (v := .ref 3) rfl rfl (nlt rfl) rfl (nlt rfl) rfl rfl rfl rfl ?_
          refine jr_v rfl rfl (Or.inl rfl) rfl rfl (nlt rfl) rfl ⟨rfl, Nat.le_of_ble_eq_true rfl, Nat.le_of_ble_eq_true rfl⟩ rfl (jc.deep (c_Flows_flowOf_o hC_M8 (FR.rfl _ M8) (show kd 3 = 18 from rfl) rfl (fun r9 M9 hC_M9 hf_M9 z9 w9_0 => ?_)) (Nat.le_of_ble_eq_true rfl))
          have ht_M9 : FR W_c_PacketWall_verdict_o T M9 := FR.t ht_M8 hf_M9 (kw_sub rfl)
          refine jr.istore_n (ls' := [_, _, _]) rfl (nlt rfl) rfl ?_
          refine jr.aload_n rfl rfl ?_
          refine jr.getf (i := 11) (v := .ref 421) rfl rfl (nlt rfl) rfl (nlt rfl) rfl rfl rfl rfl ?_
          refine jr.aload_n rfl rfl ?_
          refine jr.getf (i := 3) (v := .ref 3) rfl rfl (nlt rfl) rfl (nlt rfl) rfl rfl rfl rfl ?_
          refine jr.iload_n rfl rfl ?_
          refine jr.aload_n rfl rfl ?_
          refine jr.getf (i := 9) (v := .ref 15) rfl rfl (nlt rfl) rfl (nlt rfl) rfl rfl rfl rfl ?_
          refine jr.iload_n rfl rfl ?_
          refine jr_v rfl rfl (Or.inl rfl) rfl rfl (nlt rfl) rfl ⟨rfl, Nat.le_of_ble_eq_true rfl, Nat.le_of_ble_eq_true rfl⟩ rfl (jc.deep (c_Flows_stateOf hC_M9 (by omega) (fun r10 z10  => ?_)) (Nat.le_of_ble_eq_true rfl))
          refine jr.aload_n rfl rfl ?_
          obtain ⟨v11, e11⟩ : ∃ z_, M 0 8 = z_ := ⟨_, rfl⟩
          have b11 : (-2147483648) ≤ v11 ∧ v11 ≤ 2147483647 := by rw [← e11]; exact (CI.r hC_M (show kd 0 = 35 from rfl) (by decide) 8)
          have e12 : M8 0 8 = v11 := (hf_M8.g (show kd 0 = 35 from rfl) rfl).trans e11
          have e13 : M9 0 8 = v11 := (hf_M9.g (show kd 0 = 35 from rfl) rfl).trans e12
          refine jr.getf (i := 8) (x := v11) (v := .int (Int32.ofInt (v11))) rfl rfl (nlt rfl) rfl (nlt rfl) rfl rfl e13 rfl ?_
          have e15 : M8 421 4 = v1 := (hf_M8.g (show kd 421 = 22 from rfl) rfl).trans e1
          have e16 : M9 421 4 = v1 := (hf_M9.g (show kd 421 = 22 from rfl) rfl).trans e15
          refine jr_v rfl rfl (Or.inl rfl) rfl rfl (nlt rfl) rfl ⟨rfl, Nat.le_of_ble_eq_true rfl, Nat.le_of_ble_eq_true rfl⟩ rfl (jc.deep (c_Machine_judge hC_M9 (FR.rfl _ M9) (show kd 3 = 18 from rfl) (by omega) (by omega) (by omega) (by have hq0 : M9 421 4 = v1 := e16; omega) (LC.fr (LC.fr p1 hf_M8 rfl) hf_M9 rfl) (by omega) (PC.fr (PC.fr p3 hC_M hf_M8 rfl) hC_M8 hf_M9 rfl) (fun r14 M14 hC_M14 hf_M14 z14 w14_0 w14_1 => ?_)) (Nat.le_of_ble_eq_true rfl))
          have ht_M14 : FR W_c_PacketWall_verdict_o T M14 := FR.t ht_M9 hf_M14 (kw_sub rfl)
          obtain ⟨v17, e17⟩ : ∃ z_, M14 421 4 = z_ := ⟨_, rfl⟩
          have b17 : 0 ≤ v17 ∧ v17 ≤ 1 := by rw [← e17]; exact (CI.r hC_M14 (show kd 421 = 22 from rfl) (by decide) 4)
          have b18 : 0 ≤ v17 ∧ v17 ≤ 0 := by rw [← e17]; exact w14_1
          exact jr.ireturn rfl rfl rfl (q _ _ hC_M14 ht_M14 (by omega) (LC.le w14_0 (by omega)) (by have hq0 : M14 421 4 = v17 := e17; omega) (by rw [p4]; exact OL.t (OL.f hf_M8 rfl) (OL.t w9_0 (OL.f hf_M14 rfl))))
        · have sx33 : (1 : Int) ≤ r6 := by omega
          clear h33
          refine jr.bipush rfl (by decide) ?_
          exact jr.ireturn rfl rfl rfl (q _ _ hC_M ht_M (by first | exact rgq rfl | omega) (LC.le p1 (by omega)) (by have hq0 : M 421 4 = v1 := e1; omega) (fun b k _ _ => by rw [p4]))
    · refine jr.bipush rfl (by decide) ?_
      exact jr.ireturn rfl rfl rfl (q _ _ hC_M ht_M (by first | exact rgq rfl | omega) (LC.le p1 (by omega)) (by have hq0 : M 421 4 = v1 := e1; omega) (fun b k _ _ => by rw [p4]))
noncomputable def W_c_PacketWall_rules_o : List (Nat × Nat) := [(22, 2), (35, 1), (44, 0), (44, 1), (44, 2), (44, 3), (44, 4), (44, 6), (44, 7), (44, 8), (44, 9), (44, 10), (44, 11), (45, 1000), (47, 2), (47, 3), (47, 4), (48, 1000), (49, 1000), (50, 1000), (51, 1000)]
theorem c_PacketWall_rules_o_L22 {A : Nat → Option (Nat × (Nat → Int32))} [HA A] {Q : Option Value → jm → Prop} {T : jm} {G : Nat → Int → Int} (q : ∀ (r : Int) (M' : jm), CI M' → FR W_c_PacketWall_rules_o T M' → (-2147483648) ≤ r ∧ r ≤ 2147483647 → (PC M' ) → (M' 413 2 ≠ M' 421 2) → (M' 0 1 = 0) → Q (some (.int (Int32.ofInt r))) M') : ∀ (nM : Nat) (M : jm) (i : Int), CI M → FR W_c_PacketWall_rules_o T M → 0 ≤ i ∧ i ≤ 17 → (1 ≤ M 413 3 ∧ M 413 3 ≤ 1) → (MP M G) → (PG G) → (M 0 1 = 0) → 17 - i ≤ nM → jr A 361 xm_26 22 [(1, .int (Int32.ofInt (i))), (0, .ref (0))] [] M Q := by
  intro nM
  induction nM using Nat.strongRecOn with
  | ind nM ih =>
    intro M i hC_M ht_M h_i hy0 hy1 hy2 hy3 hm
    obtain ⟨v1, e1⟩ : ∃ z_, M 413 3 = z_ := ⟨_, rfl⟩
    have b1 : 1 ≤ v1 ∧ v1 ≤ 419 := by rw [← e1]; exact (CI.r hC_M (show kd 413 = 44 from rfl) (by decide) 3)
    have b2 : 1 ≤ v1 ∧ v1 ≤ 1 := by rw [← e1]; exact hy0
    obtain ⟨v3, e3⟩ : ∃ z_, M 0 1 = z_ := ⟨_, rfl⟩
    have b3 : 0 ≤ v3 ∧ v3 ≤ 1600 := by rw [← e3]; exact (CI.r hC_M (show kd 0 = 35 from rfl) (by decide) 1)
    refine jr.iload_n rfl rfl ?_
    refine jr.bipush rfl (jbp _ (nlt rfl)) ?_
    refine jr.icmp_gt rfl rfl (by first | (refine rgb (by assumption) ?_; exact rfl) | omega) (rgl rfl) (fun h25 => ?_) (fun h25 => ?_)
    · refine jr.aload_n rfl rfl ?_
      refine jr.getf (i := 10) (v := .ref 413) rfl rfl (nlt rfl) rfl (nlt rfl) rfl rfl rfl rfl ?_
      refine jr_v rfl rfl (Or.inl rfl) rfl rfl (nlt rfl) rfl ⟨rfl, Nat.le_of_ble_eq_true rfl, Nat.le_of_ble_eq_true rfl⟩ rfl (jc.deep (c_Parser_resolveJumps hC_M (FR.rfl _ M)  (by have hq0 : M 413 3 = v1 := e1; omega) hy1 (fun M4 hC_M4 hf_M4 w4_0 w4_1 => ?_)) (Nat.le_of_ble_eq_true rfl))
      have ht_M4 : FR W_c_PacketWall_rules_o T M4 := FR.t ht_M hf_M4 (kw_sub rfl)
      refine jr.aload_n rfl rfl ?_
      refine jr.getf (i := 10) (v := .ref 413) rfl rfl (nlt rfl) rfl (nlt rfl) rfl rfl rfl rfl ?_
      obtain ⟨v5, e5⟩ : ∃ z_, M4 413 0 = z_ := ⟨_, rfl⟩
      have b5 : (-2147483648) ≤ v5 ∧ v5 ≤ 2147483647 := by rw [← e5]; exact (CI.r hC_M4 (show kd 413 = 44 from rfl) (by decide) 0)
      refine jr.getf (i := 0) (x := v5) (v := .int (Int32.ofInt (v5))) rfl rfl (nlt rfl) rfl (nlt rfl) rfl rfl e5 rfl ?_
      refine jr.if_eq rfl rfl (by first | (refine rgb (by assumption) ?_; exact rfl) | omega) (fun h66 => ?_) (fun h66 => ?_)
      · refine jr.aload_n rfl rfl ?_
        refine jr.getf (i := 11) (v := .ref 421) rfl rfl (nlt rfl) rfl (nlt rfl) rfl rfl rfl rfl ?_
        obtain ⟨v6, e6⟩ : ∃ z_, M 421 2 = z_ := ⟨_, rfl⟩
        have b6 : 0 ≤ v6 ∧ v6 ≤ 597 := by rw [← e6]; exact (CI.r hC_M (show kd 421 = 22 from rfl) (by decide) 2)
        have e7 : M4 421 2 = v6 := (hf_M4.g (show kd 421 = 22 from rfl) rfl).trans e6
        have k8 : kd (v6).toNat = 47 := ((congrArg (fun z : Int => kd z.toNat) (show M4 421 2 = v6 from e7)).symm.trans (CI.x hC_M4 (show kd 421 = 22 from rfl) 2 rfl (by decide)))
        refine jr.getf (i := 2) (x := v6) (v := .ref (v6.toNat)) rfl rfl (nlt rfl) rfl (nlt rfl) rfl rfl e7 rfl ?_
        refine jr.astore_n (ls' := [_, _]) rfl (nlt rfl) rfl ?_
        refine jr.aload_n rfl rfl ?_
        refine jr.getf (i := 11) (v := .ref 421) rfl rfl (nlt rfl) rfl (nlt rfl) rfl rfl rfl rfl ?_
        refine jr.aload_n rfl rfl ?_
        refine jr.getf (i := 10) (v := .ref 413) rfl rfl (nlt rfl) rfl (nlt rfl) rfl rfl rfl rfl ?_
        obtain ⟨v9, e9⟩ : ∃ z_, M 413 2 = z_ := ⟨_, rfl⟩
        have b9 : 0 ≤ v9 ∧ v9 ≤ 597 := by rw [← e9]; exact (CI.r hC_M (show kd 413 = 44 from rfl) (by decide) 2)
        have e10 : M4 413 2 = v9 := (hf_M4.g (show kd 413 = 44 from rfl) rfl).trans e9
        have k11 : kd (v9).toNat = 47 := ((congrArg (fun z : Int => kd z.toNat) (show M4 413 2 = v9 from e10)).symm.trans (CI.x hC_M4 (show kd 413 = 44 from rfl) 2 rfl (by decide)))
        refine jr.getf (i := 2) (x := v9) (v := .ref (v9.toNat)) rfl rfl (nlt rfl) rfl (nlt rfl) rfl rfl e10 rfl ?_
        refine jr.putf (i := 2) (x := v9) rfl rfl (nlt rfl) rfl (nlt rfl) rfl rfl rfl rfl rfl ?_
        refine jr.aload_n rfl rfl ?_
        refine jr.getf (i := 10) (v := .ref 413) rfl rfl (nlt rfl) rfl (nlt rfl) rfl rfl rfl rfl ?_
        refine jr.aload_n rfl rfl ?_
        refine jr.putf (i := 2) (x := v6) rfl rfl (nlt rfl) rfl (nlt rfl) rfl rfl rfl rfl rfl ?_
        refine jr.aload_n rfl rfl ?_
        refine jr.getf (i := 11) (v := .ref 421) rfl rfl (nlt rfl) rfl (nlt rfl) rfl rfl rfl rfl ?_
        have k12 : kd (v9).toNat = 47 := ((congrArg (fun z : Int => kd z.toNat) (show (ju (ju M4 421 2 v9) 413 2 v6) 421 2 = v9 from ((ju_c _ _ (by decide)).trans (ju_same _ _ _ _)))).symm.trans (CI.x (CI.w (v := v6) (CI.w (v := v9) hC_M4 (i := 2) (show kd 421 = 22 from rfl) (show (0 : Int) ≤ _ ∧ _ ≤ (597 : Int) from by have hk := kd_lt (a := (v9).toNat) (by rw [k11]; decide); omega) k11) (i := 2) (show kd 413 = 44 from rfl) (show (0 : Int) ≤ _ ∧ _ ≤ (597 : Int) from by have hk := kd_lt (a := (v6).toNat) (by rw [k8]; decide); omega) k8) (show kd 421 = 22 from rfl) 2 rfl (by decide)))
        refine jr.getf (i := 2) (x := v9) (v := .ref (v9.toNat)) rfl rfl (nlt rfl) rfl (nlt rfl) rfl rfl ((ju_c _ _ (by decide)).trans (ju_same _ _ _ _)) rfl ?_
        obtain ⟨v13, e13⟩ : ∃ z_, M ((v9.toNat)) 3 = z_ := ⟨_, rfl⟩
        have b13 : 0 ≤ v13 ∧ v13 ≤ 16 := by rw [← e13]; exact (CI.r hC_M k12 (by decide) 3)
        have e14 : M4 ((v9.toNat)) 3 = v13 := (hf_M4.g k12 rfl).trans e13
        refine jr.getf (i := 3) (x := v13) (v := .int (Int32.ofInt (v13))) rfl rfl (Nat.lt_trans (kx_47 k12).1 (by decide)) (kx_47 k12).2 (by decide) rfl rfl ((ju_i _ _ (zne (by decide))).trans ((ju_i _ _ (zne (by decide))).trans e14)) rfl ?_
        have e15 : M4 0 1 = v3 := (hf_M4.g (show kd 0 = 35 from rfl) rfl).trans e3
        exact jr.ireturn rfl rfl rfl (q _ _ (CI.w (v := v6) (CI.w (v := v9) hC_M4 (i := 2) (show kd 421 = 22 from rfl) (show (0 : Int) ≤ _ ∧ _ ≤ (597 : Int) from by have hk := kd_lt (a := (v9).toNat) (by rw [k11]; decide); omega) k11) (i := 2) (show kd 413 = 44 from rfl) (show (0 : Int) ≤ _ ∧ _ ≤ (597 : Int) from by have hk := kd_lt (a := (v6).toNat) (by rw [k8]; decide); omega) k8) (FR.o (FR.o ht_M4 (show kd 421 = 22 from rfl) rfl) (show kd 413 = 44 from rfl) rfl) (by omega) (PC.sw w4_1 hC_M4 (by have hq : M4 413 0 = v5 := e5; omega) e10) (by have hne := w4_0.1; have h1 : M4 413 2 = v9 := e10; have h2 : M4 421 2 = v6 := e7; have h3 : (ju (ju M4 421 2 v9) 413 2 v6) 413 2 = v6 := (ju_same _ _ _ _); have h4 : (ju (ju M4 421 2 v9) 413 2 v6) 421 2 = v9 := ((ju_c _ _ (by decide)).trans (ju_same _ _ _ _)); omega) (by have hq : (ju (ju M4 421 2 v9) 413 2 v6) 0 1 = v3 := ((ju_c _ _ (by decide)).trans ((ju_c _ _ (by decide)).trans e15)); omega))
      · refine jr.bipush rfl (by decide) ?_
        refine jr.aload_n rfl rfl ?_
        refine jr.getf (i := 10) (v := .ref 413) rfl rfl (nlt rfl) rfl (nlt rfl) rfl rfl rfl rfl ?_
        refine jr.getf (i := 0) (x := v5) (v := .int (Int32.ofInt (v5))) rfl rfl (nlt rfl) rfl (nlt rfl) rfl rfl e5 rfl ?_
        refine jr.isub rfl ?_
        refine jr.iw (j_w ((-10) - v5)) (j_w_eq _) ?_
        have b16 : -2147483648 ≤ j_w ((-10) - v5) ∧ j_w ((-10) - v5) ≤ 2147483647 := jb_any _
        generalize j_w ((-10) - v5) = v16 at b16 ⊢
        have e17 : M4 0 1 = v3 := (hf_M4.g (show kd 0 = 35 from rfl) rfl).trans e3
        exact jr.ireturn rfl rfl rfl (q _ _ hC_M4 ht_M4 (by omega) (PC.g w4_0 hy2) w4_0.1 (by have hq : M4 0 1 = v3 := e17; omega))
    · refine jr.aload_n rfl rfl ?_
      refine jr.getf (i := 10) (v := .ref 413) rfl rfl (nlt rfl) rfl (nlt rfl) rfl rfl rfl rfl ?_
      refine jr.iload_n rfl rfl ?_
      refine jr_v rfl rfl (Or.inl rfl) rfl rfl (nlt rfl) rfl ⟨rfl, Nat.le_of_ble_eq_true rfl, Nat.le_of_ble_eq_true rfl⟩ rfl (jc.deep (c_Parser_hasMore hC_M (by omega) (fun r18 z18  => ?_)) (Nat.le_of_ble_eq_true rfl))
      refine jr.if_eq rfl rfl (by first | (refine rgb (by assumption) ?_; exact rfl) | omega) (fun h36 => ?_) (fun h36 => ?_)
      · refine jr.aload_n rfl rfl ?_
        refine jr.getf (i := 10) (v := .ref 413) rfl rfl (nlt rfl) rfl (nlt rfl) rfl rfl rfl rfl ?_
        refine jr_v rfl rfl (Or.inl rfl) rfl rfl (nlt rfl) rfl ⟨rfl, Nat.le_of_ble_eq_true rfl, Nat.le_of_ble_eq_true rfl⟩ rfl (jc.deep (c_Parser_resolveJumps hC_M (FR.rfl _ M)  (by have hq0 : M 413 3 = v1 := e1; omega) hy1 (fun M19 hC_M19 hf_M19 w19_0 w19_1 => ?_)) (Nat.le_of_ble_eq_true rfl))
        have ht_M19 : FR W_c_PacketWall_rules_o T M19 := FR.t ht_M hf_M19 (kw_sub rfl)
        refine jr.aload_n rfl rfl ?_
        refine jr.getf (i := 10) (v := .ref 413) rfl rfl (nlt rfl) rfl (nlt rfl) rfl rfl rfl rfl ?_
        obtain ⟨v20, e20⟩ : ∃ z_, M19 413 0 = z_ := ⟨_, rfl⟩
        have b20 : (-2147483648) ≤ v20 ∧ v20 ≤ 2147483647 := by rw [← e20]; exact (CI.r hC_M19 (show kd 413 = 44 from rfl) (by decide) 0)
        refine jr.getf (i := 0) (x := v20) (v := .int (Int32.ofInt (v20))) rfl rfl (nlt rfl) rfl (nlt rfl) rfl rfl e20 rfl ?_
        refine jr.if_eq rfl rfl (by first | (refine rgb (by assumption) ?_; exact rfl) | omega) (fun h66 => ?_) (fun h66 => ?_)
        · refine jr.aload_n rfl rfl ?_
          refine jr.getf (i := 11) (v := .ref 421) rfl rfl (nlt rfl) rfl (nlt rfl) rfl rfl rfl rfl ?_
          obtain ⟨v21, e21⟩ : ∃ z_, M 421 2 = z_ := ⟨_, rfl⟩
          have b21 : 0 ≤ v21 ∧ v21 ≤ 597 := by rw [← e21]; exact (CI.r hC_M (show kd 421 = 22 from rfl) (by decide) 2)
          have e22 : M19 421 2 = v21 := (hf_M19.g (show kd 421 = 22 from rfl) rfl).trans e21
          have k23 : kd (v21).toNat = 47 := ((congrArg (fun z : Int => kd z.toNat) (show M19 421 2 = v21 from e22)).symm.trans (CI.x hC_M19 (show kd 421 = 22 from rfl) 2 rfl (by decide)))
          refine jr.getf (i := 2) (x := v21) (v := .ref (v21.toNat)) rfl rfl (nlt rfl) rfl (nlt rfl) rfl rfl e22 rfl ?_
          refine jr.astore_n (ls' := [_, _]) rfl (nlt rfl) rfl ?_
          refine jr.aload_n rfl rfl ?_
          refine jr.getf (i := 11) (v := .ref 421) rfl rfl (nlt rfl) rfl (nlt rfl) rfl rfl rfl rfl ?_
          refine jr.aload_n rfl rfl ?_
          refine jr.getf (i := 10) (v := .ref 413) rfl rfl (nlt rfl) rfl (nlt rfl) rfl rfl rfl rfl ?_
          obtain ⟨v24, e24⟩ : ∃ z_, M 413 2 = z_ := ⟨_, rfl⟩
          have b24 : 0 ≤ v24 ∧ v24 ≤ 597 := by rw [← e24]; exact (CI.r hC_M (show kd 413 = 44 from rfl) (by decide) 2)
          have e25 : M19 413 2 = v24 := (hf_M19.g (show kd 413 = 44 from rfl) rfl).trans e24
          have k26 : kd (v24).toNat = 47 := ((congrArg (fun z : Int => kd z.toNat) (show M19 413 2 = v24 from e25)).symm.trans (CI.x hC_M19 (show kd 413 = 44 from rfl) 2 rfl (by decide)))
          refine jr.getf (i := 2) (x := v24) (v := .ref (v24.toNat)) rfl rfl (nlt rfl) rfl (nlt rfl) rfl rfl e25 rfl ?_
          refine jr.putf (i := 2) (x := v24) rfl rfl (nlt rfl) rfl (nlt rfl) rfl rfl rfl rfl rfl ?_
          refine jr.aload_n rfl rfl ?_
          refine jr.getf (i := 10) (v := .ref 413) rfl rfl (nlt rfl) rfl (nlt rfl) rfl rfl rfl rfl ?_
          refine jr.aload_n rfl rfl ?_
          refine jr.putf (i := 2) (x := v21) rfl rfl (nlt rfl) rfl (nlt rfl) rfl rfl rfl rfl rfl ?_
          refine jr.aload_n rfl rfl ?_
          refine jr.getf (i := 11) (v := .ref 421) rfl rfl (nlt rfl) rfl (nlt rfl) rfl rfl rfl rfl ?_
          have k27 : kd (v24).toNat = 47 := ((congrArg (fun z : Int => kd z.toNat) (show (ju (ju M19 421 2 v24) 413 2 v21) 421 2 = v24 from ((ju_c _ _ (by decide)).trans (ju_same _ _ _ _)))).symm.trans (CI.x (CI.w (v := v21) (CI.w (v := v24) hC_M19 (i := 2) (show kd 421 = 22 from rfl) (show (0 : Int) ≤ _ ∧ _ ≤ (597 : Int) from by have hk := kd_lt (a := (v24).toNat) (by rw [k26]; decide); omega) k26) (i := 2) (show kd 413 = 44 from rfl) (show (0 : Int) ≤ _ ∧ _ ≤ (597 : Int) from by have hk := kd_lt (a := (v21).toNat) (by rw [k23]; decide); omega) k23) (show kd 421 = 22 from rfl) 2 rfl (by decide)))
          refine jr.getf (i := 2) (x := v24) (v := .ref (v24.toNat)) rfl rfl (nlt rfl) rfl (nlt rfl) rfl rfl ((ju_c _ _ (by decide)).trans (ju_same _ _ _ _)) rfl ?_
          obtain ⟨v28, e28⟩ : ∃ z_, M ((v24.toNat)) 3 = z_ := ⟨_, rfl⟩
          have b28 : 0 ≤ v28 ∧ v28 ≤ 16 := by rw [← e28]; exact (CI.r hC_M k27 (by decide) 3)
          have e29 : M19 ((v24.toNat)) 3 = v28 := (hf_M19.g k27 rfl).trans e28
          refine jr.getf (i := 3) (x := v28) (v := .int (Int32.ofInt (v28))) rfl rfl (Nat.lt_trans (kx_47 k27).1 (by decide)) (kx_47 k27).2 (by decide) rfl rfl ((ju_i _ _ (zne (by decide))).trans ((ju_i _ _ (zne (by decide))).trans e29)) rfl ?_
          have e30 : M19 0 1 = v3 := (hf_M19.g (show kd 0 = 35 from rfl) rfl).trans e3
          exact jr.ireturn rfl rfl rfl (q _ _ (CI.w (v := v21) (CI.w (v := v24) hC_M19 (i := 2) (show kd 421 = 22 from rfl) (show (0 : Int) ≤ _ ∧ _ ≤ (597 : Int) from by have hk := kd_lt (a := (v24).toNat) (by rw [k26]; decide); omega) k26) (i := 2) (show kd 413 = 44 from rfl) (show (0 : Int) ≤ _ ∧ _ ≤ (597 : Int) from by have hk := kd_lt (a := (v21).toNat) (by rw [k23]; decide); omega) k23) (FR.o (FR.o ht_M19 (show kd 421 = 22 from rfl) rfl) (show kd 413 = 44 from rfl) rfl) (by omega) (PC.sw w19_1 hC_M19 (by have hq : M19 413 0 = v20 := e20; omega) e25) (by have hne := w19_0.1; have h1 : M19 413 2 = v24 := e25; have h2 : M19 421 2 = v21 := e22; have h3 : (ju (ju M19 421 2 v24) 413 2 v21) 413 2 = v21 := (ju_same _ _ _ _); have h4 : (ju (ju M19 421 2 v24) 413 2 v21) 421 2 = v24 := ((ju_c _ _ (by decide)).trans (ju_same _ _ _ _)); omega) (by have hq : (ju (ju M19 421 2 v24) 413 2 v21) 0 1 = v3 := ((ju_c _ _ (by decide)).trans ((ju_c _ _ (by decide)).trans e30)); omega))
        · refine jr.bipush rfl (by decide) ?_
          refine jr.aload_n rfl rfl ?_
          refine jr.getf (i := 10) (v := .ref 413) rfl rfl (nlt rfl) rfl (nlt rfl) rfl rfl rfl rfl ?_
          refine jr.getf (i := 0) (x := v20) (v := .int (Int32.ofInt (v20))) rfl rfl (nlt rfl) rfl (nlt rfl) rfl rfl e20 rfl ?_
          refine jr.isub rfl ?_
          refine jr.iw (j_w ((-10) - v20)) (j_w_eq _) ?_
          have b31 : -2147483648 ≤ j_w ((-10) - v20) ∧ j_w ((-10) - v20) ≤ 2147483647 := jb_any _
          generalize j_w ((-10) - v20) = v31 at b31 ⊢
          have e32 : M19 0 1 = v3 := (hf_M19.g (show kd 0 = 35 from rfl) rfl).trans e3
          exact jr.ireturn rfl rfl rfl (q _ _ hC_M19 ht_M19 (by omega) (PC.g w19_0 hy2) w19_0.1 (by have hq : M19 0 1 = v3 := e32; omega))
      · have sx36 : (1 : Int) ≤ r18 := by omega
        clear h36
        refine jr.aload_n rfl rfl ?_
        refine jr.getf (i := 10) (v := .ref 413) rfl rfl (nlt rfl) rfl (nlt rfl) rfl rfl rfl rfl ?_
        refine jr_v rfl rfl (Or.inl rfl) rfl rfl (nlt rfl) rfl ⟨rfl, Nat.le_of_ble_eq_true rfl, Nat.le_of_ble_eq_true rfl⟩ rfl (jc.deep (c_Parser_chain hC_M (FR.rfl _ M)  (by have hq0 : M 413 3 = v1 := e1; omega) hy1 (fun M33 hC_M33 hf_M33 w33_0 => ?_)) (Nat.le_of_ble_eq_true rfl))
        have ht_M33 : FR W_c_PacketWall_rules_o T M33 := FR.t ht_M hf_M33 (kw_sub rfl)
        refine jr.iinc (ls' := [_, _]) rfl rfl (nlt rfl) rfl ?_
        refine jr.goto rfl rfl ?_
        have e34 : M33 413 3 = v1 := (hf_M33.g (show kd 413 = 44 from rfl) rfl).trans e1
        have e35 : M33 0 1 = v3 := (hf_M33.g (show kd 0 = 35 from rfl) rfl).trans e3
        refine jr.pick (ls := [_, _]) [0, 1] rfl rfl ?_
        exact ih (nM - 1) (by omega) M33 (i + 1) hC_M33 ht_M33 (by omega) (by have hq0 : M33 413 3 = v1 := e34; omega) w33_0 hy2 (by have hq0 : M33 0 1 = v3 := e35; omega) (by omega)
theorem c_PacketWall_rules_o {A : Nat → Option (Nat × (Nat → Int32))} [HA A] {Q : Option Value → jm → Prop} {T : jm} {M : jm} (hC_M : CI M) (ht_M : FR W_c_PacketWall_rules_o T M) (p0 : PC M ) (p1 : M 413 2 ≠ M 421 2) (q : ∀ (r : Int) (M' : jm), CI M' → FR W_c_PacketWall_rules_o T M' → (-2147483648) ≤ r ∧ r ≤ 2147483647 → (PC M' ) → (M' 413 2 ≠ M' 421 2) → (M' 0 1 = 0) → Q (some (.int (Int32.ofInt r))) M') : jc A 362 26 [.ref (0)] M Q := by
  refine jc_of (m := xm_26) rfl (Nat.le_of_ble_eq_true rfl) rfl ?_
  obtain ⟨v1, e1⟩ : ∃ z_, M 413 2 = z_ := ⟨_, rfl⟩
  have b1 : 0 ≤ v1 ∧ v1 ≤ 597 := by rw [← e1]; exact (CI.r hC_M (show kd 413 = 44 from rfl) (by decide) 2)
  obtain ⟨v2, e2⟩ : ∃ z_, M 421 2 = z_ := ⟨_, rfl⟩
  have b2 : 0 ≤ v2 ∧ v2 ≤ 597 := by rw [← e2]; exact (CI.r hC_M (show kd 421 = 22 from rfl) (by decide) 2)
  have hG : MP M (fun d k => M ((M 421 2).toNat + d) k) := ⟨p1, fun _ _ _ => rfl⟩
  refine jr.aload_n rfl rfl ?_
  refine jr.getf (i := 10) (v := .ref 413) rfl rfl (nlt rfl) rfl (nlt rfl) rfl rfl rfl rfl ?_
  refine jr.aload_n rfl rfl ?_
  refine jr.getf (i := 0) (v := .ref 1) rfl rfl (nlt rfl) rfl (nlt rfl) rfl rfl rfl rfl ?_
  refine jr.aload_n rfl rfl ?_
  obtain ⟨v3, e3⟩ : ∃ z_, M 0 1 = z_ := ⟨_, rfl⟩
  have b3 : 0 ≤ v3 ∧ v3 ≤ 1600 := by rw [← e3]; exact (CI.r hC_M (show kd 0 = 35 from rfl) (by decide) 1)
  refine jr.getf (i := 1) (x := v3) (v := .int (Int32.ofInt (v3))) rfl rfl (nlt rfl) rfl (nlt rfl) rfl rfl e3 rfl ?_
  refine jr_v rfl rfl (Or.inl rfl) rfl rfl (nlt rfl) rfl ⟨rfl, Nat.le_of_ble_eq_true rfl, Nat.le_of_ble_eq_true rfl⟩ rfl (jc.deep (c_Parser_begin hC_M (FR.rfl _ M) (by omega) hG (fun M4 hC_M4 hf_M4 w4_0 w4_1 => ?_)) (Nat.le_of_ble_eq_true rfl))
  have ht_M4 : FR W_c_PacketWall_rules_o T M4 := FR.t ht_M hf_M4 (kw_sub rfl)
  obtain ⟨v5, e5⟩ : ∃ z_, M4 413 3 = z_ := ⟨_, rfl⟩
  have b5 : 1 ≤ v5 ∧ v5 ≤ 419 := by rw [← e5]; exact (CI.r hC_M4 (show kd 413 = 44 from rfl) (by decide) 3)
  have b6 : 1 ≤ v5 ∧ v5 ≤ 1 := by rw [← e5]; exact w4_1
  refine jr.aload_n rfl rfl ?_
  refine jr.iconst rfl ?_
  refine jr.putf (i := 1) (x := 0) rfl rfl (nlt rfl) rfl (nlt rfl) rfl rfl rfl rfl rfl ?_
  refine jr.iconst rfl ?_
  refine jr.istore_n (ls' := [_, _]) rfl (nlt rfl) rfl ?_
  refine jr.pick (ls := [_, _]) [0, 1] rfl rfl ?_
  exact c_PacketWall_rules_o_L22  q 17 ((ju M4 0 1 0)) 0 (CI.u hC_M4 (i := 1) (show kd 0 = 35 from rfl) (show (0 : Int) ≤ _ ∧ _ ≤ (1600 : Int) from by omega) rfl) (FR.o ht_M4 (show kd 0 = 35 from rfl) rfl) (by omega) (by have hq0 : (ju M4 0 1 0) 413 3 = v5 := ((ju_c _ _ (by decide)).trans e5); omega) (MP.n w4_0 hC_M4 (show kd 0 = 35 from rfl) (by decide) (Or.inl (by decide))) (PG.o p0) (by have hq0 : (ju M4 0 1 0) 0 1 = 0 := (ju_same _ _ _ _); omega) (by omega)
end
