section
/-! ===== both sides answer alike: track ===== -/
/-- the reference holds the headers of f; the packet's own header is I -/
noncomputable def TKC (M : jm) (f : Int → Int) (N C x I : Int) : Prop := HT M f N C ∧ (0 ≤ I ∧ I < C) ∧ M 598 65 = I ∧ rf M x = f ∧ M 600 x = N
theorem TKC.e {E M : jm} {f : Int → Int} {N C x I : Int} (h : TKC E f N C x I) (e : ∀ (b : Nat) (i : Int), 600 ≤ b → b ≤ 605 → M b i = E b i) (e6 : M 598 6 = E 598 6) (e5 : M 598 65 = E 598 65) : TKC M f N C x I := by
  obtain ⟨h1, h2, h3, h4, h5⟩ := h
  refine ⟨⟨by rw [e6]; exact h1.1, fun i i0 i1 => ?_, h1.2.2⟩, h2, by rw [e5]; exact h3, ?_, by rw [e 600 x (by decide) (by decide)]; exact h5⟩
  · rw [e (602 + 1) i (by decide) (by decide), e (602 + 2) i (by decide) (by decide), e (602 + 3) i (by decide) (by decide)]
    exact h1.2.1 i i0 i1
  · rw [← h4]
    exact rf_e (fun i => e 601 i (by decide) (by decide))
theorem tk_v8 {M : jm} {f : Int → Int} {N C I : Int} (ht : HT M f N C) (hi : 0 ≤ I ∧ I < C) (k8 : kA f N C I = 8) : vA f N C I 5 = f (hY f N I + 13) ∧ vA f N C I 2 = nbs f (hY f N I + 4) 4 ∧ vA f N C I 6 = tw f (hY f N I + 14) ∧ hX f N I = 8 := by
  have k := k8
  rw [kA_i hi] at k
  have y0 := ht.y hi
  have b := HT.f ht hi
  rw [k] at b
  have l20 : lst 8 = 20 := rfl
  have hN := ht.2.2.1
  have b13 := ht.2.2.2 (hY f N I + 13) (by omega) (by omega)
  have b14 := ht.2.2.2 (hY f N I + 14) (by omega) (by omega)
  have b15 := ht.2.2.2 (hY f N I + 14 + 1) (by omega) (by omega)
  have r4 := nbs_r4 (f := f) (y := hY f N I + 4) (n := 4) (by decide) (fun i i0 i1 => ht.2.2.2 i (by omega) (by omega))
  rw [vA_k (j := 5) hi k (by decide +kernel), vof_8_5, vA_k (j := 2) hi k (by decide +kernel), vof_8_2, vA_k (j := 6) hi k (by decide +kernel), vof_8_6, nbs_1, nbs_2]
  unfold tw
  omega
theorem tk_v7 {M : jm} {f : Int → Int} {N C I : Int} (ht : HT M f N C) (hi : 0 ≤ I ∧ I < C) (k7 : kA f N C I = 7) : vA f N C I 0 = f (hY f N I) := by
  have k := k7
  rw [kA_i hi] at k
  have y0 := ht.y hi
  have b := HT.f ht hi
  rw [k] at b
  have l8 : lst 7 = 8 := rfl
  have hN := ht.2.2.1
  have b0 := ht.2.2.2 (hY f N I) (by omega) (by omega)
  rw [vA_k (j := 0) hi k (by decide +kernel), vof_7_0, nbs_1, Int.add_zero]
  omega
theorem TKC.v {M : jm} {f : Int → Int} {N C x I : Int} (h : TKC M f N C x I) (k8 : kA f N C I = 8) : clE M x = tsS f N C I ∧ lg6 M x = tsN f N C I ∧ sq6 M x = tsQ f N C I ∧ tw (rf M x) (M 604 (M 598 65) + 14) = vA f N C I 6 := by
  obtain ⟨h1, h2, h3, h4, h5⟩ := h
  have v := tk_v8 h1 h2 k8
  have b := HT.f h1 h2
  have e13 : M 601 (400 * x + (hY f N I + 13)) = f (hY f N I + 13) := congrFun h4 (hY f N I + 13)
  have en : enf f N C I = hY f N I + hZ f N I := by
    unfold enf
    rw [if_pos h2]
  refine ⟨?_, ?_, ?_, ?_⟩
  · unfold clE tsS
    rw [h3, b.2.1, e13, v.1]
  · unfold lg6 tsN
    rw [h3, b.2.1, b.2.2.1, e13, v.1, h5, en]
    omega
  · unfold sq6 tsQ
    rw [h3, b.2.1, h4, v.2.1]
  · rw [h3, b.2.1, h4, v.2.2.1]
/-- a flow before it takes a packet in: all but its state, its end and who has sent -/
noncomputable def FP (C R : jm) (t : Nat) (f : Int) : Prop := (C t 1 = R 628 f ∧ C t 2 = R 629 f ∧ C t 13 = R 640 f) ∧ (∀ s : Int, 0 ≤ s → s < 2 → (C (t + 1) s = R 630 (2 * f + s) ∧ C (t + 2) s = R 631 (2 * f + s) ∧ C (t + 5) s = R 635 (2 * f + s)) ∧ (C (t + 6) s = R 636 (2 * f + s) ∧ C (t + 7) s = R 637 (2 * f + s)) ∧ C (t + 4) s = R 632 (2 * f + s) ∧ C (t + 3) s = l6x R (2 * f + s)) ∧ C t 12 = R 634 (2 * f + 1) ∧ ((R 640 f = -1 ∧ C t 15 = -1) ∨ (R 640 f ≠ -1 ∧ C t 14 = R 641 f ∧ C t 15 = R 642 f ∧ R 628 f = 0 ∧ R 629 f ≠ 1))
theorem FL.p {C R : jm} {t : Nat} {f : Int} (h : FL C R t f) : FP C R t f := ⟨⟨h.1.1, h.1.2.1, h.1.2.2.2.2⟩, h.2.1, h.2.2.1.1, h.2.2.2.1⟩
theorem tsM_f {M : jm} {t : Nat} {z b e w : Int} : (∀ k : Int, k ≠ 5 → tsM M t z b e w t k = M t k) ∧ tsM M t z b e w t 5 = b ∧ (∀ k : Int, tsM M t z b e w (t + 1) k = M (t + 1) k ∧ tsM M t z b e w (t + 2) k = M (t + 2) k ∧ tsM M t z b e w (t + 6) k = M (t + 6) k ∧ tsM M t z b e w (t + 7) k = M (t + 7) k) ∧ (∀ k : Int, tsM M t z b e w (t + 5) k = if k = z then w else M (t + 5) k) ∧ (∀ k : Int, tsM M t z b e w (t + 4) k = if k = z ∧ (M (t + 4) z = 0 ∨ 0 < j_w (e - M (t + 3) z)) then 1 else M (t + 4) k) ∧ (∀ k : Int, tsM M t z b e w (t + 3) k = if k = z ∧ (M (t + 4) z = 0 ∨ 0 < j_w (e - M (t + 3) z)) then e else M (t + 3) k) ∧ fr7 M (tsM M t z b e w) t := by
  by_cases c : M (t + 4) z = 0 ∨ 0 < j_w (e - M (t + 3) z)
  · rw [tsM_p c]
    refine ⟨fun k hk => ?_, ?_, fun k => ?_, fun k => ?_, fun k => ?_, fun k => ?_, ?_⟩
    · simp [ju, hk]
    · simp [ju]
    · simp [ju]
    · simp [ju]
    · simp [ju, c]
    · simp [ju, c]
    · exact fr7.u (fr7.u (fr7.u (fr7.u (fun _ _ _ => rfl) (by omega)) (by omega)) (by omega)) (by omega)
  · rw [tsM_n c]
    refine ⟨fun k hk => ?_, ?_, fun k => ?_, fun k => ?_, fun k => ?_, fun k => ?_, ?_⟩
    · simp [ju, hk]
    · simp [ju]
    · simp [ju]
    · simp [ju]
    · simp [ju, c]
    · simp [ju, c]
    · exact fr7.u (fr7.u (fun _ _ _ => rfl) (by omega)) (by omega)
theorem tiM_f {M : jm} {t : Nat} {z u N : Int} : (∀ k : Int, k ≠ 6 → k ≠ 12 → tiM M t z u N t k = M t k) ∧ tiM M t z u N t 6 = u + lvf (M t 2) (M t 5) ∧ tiM M t z u N t 12 = (if M t 12 ≠ 0 ∨ z = 1 then 1 else 0) ∧ (∀ k : Int, tiM M t z u N (t + 1) k = M (t + 1) k ∧ tiM M t z u N (t + 2) k = M (t + 2) k ∧ tiM M t z u N (t + 3) k = M (t + 3) k ∧ tiM M t z u N (t + 4) k = M (t + 4) k ∧ tiM M t z u N (t + 5) k = M (t + 5) k) ∧ (∀ k : Int, tiM M t z u N (t + 6) k = if k = z then jl_w (M (t + 6) z + 1) else M (t + 6) k) ∧ (∀ k : Int, tiM M t z u N (t + 7) k = if k = z then jl_w (M (t + 7) z + N) else M (t + 7) k) ∧ fr7 M (tiM M t z u N) t := by
  refine ⟨fun k h6 h12 => ?_, ?_, ?_, fun k => ?_, fun k => ?_, fun k => ?_, ?_⟩
  · simp [tiM, ju, h6, h12]
  · simp [tiM, ju]
  · simp [tiM, ju]
  · simp [tiM, ju]
  · simp [tiM, ju]
  · simp [tiM, ju]
  · exact fr7.u (fr7.u (fr7.u (fr7.u (fun _ _ _ => rfl) (by omega)) (by omega)) (by omega)) (by omega)
theorem ct6_f {K S : jm} {x g s : Int} (h : CT6 K S x g s) (n6 : K 629 g = 6) : (∀ j : Int, S 636 j = if j = s then jl_w (K 636 s + 1) else K 636 j) ∧ (∀ j : Int, S 637 j = if j = s then jl_w (K 637 s + K 600 x) else K 637 j) ∧ (∀ j : Int, S 634 j = if j = s then 1 else K 634 j) ∧ (∀ j : Int, S 632 j = if j = s then 1 else K 632 j) ∧ (∀ j : Int, S 635 j = if j = s then tw (rf K x) (K 604 (K 598 65) + 14) else K 635 j) ∧ (∀ j : Int, S 633 j = if j = s ∧ ¬ (K 632 s ≠ 0 ∧ j_w (ctE K x - K 633 s) ≤ 0) then ctE K x else K 633 j) ∧ ∀ (a : Nat) (j : Int), (a < 632 ∨ 637 < a) → S a j = K a j := by
  rcases h with h | ⟨-, c, h⟩ | ⟨-, c, h⟩
  · exact absurd n6 h.1
  · rw [h]
    refine ⟨fun j => ?_, fun j => ?_, fun j => ?_, fun j => ?_, fun j => ?_, fun j => ?_, fun a j ha => ?_⟩
    · simp [ct0, ju]
    · simp [ct0, ju]
    · simp [ct0, ju]
    · simp [ct0, ju]
    · simp [ct0, ju]
    · rw [if_neg (fun u => u.2 c)]
      simp [ct0, ju]
    · unfold ct0
      rw [ju_c _ _ (by omega), ju_c _ _ (by omega), ju_c _ _ (by omega), ju_c _ _ (by omega), ju_c _ _ (by omega)]
  · rw [h]
    refine ⟨fun j => ?_, fun j => ?_, fun j => ?_, fun j => ?_, fun j => ?_, fun j => ?_, fun a j ha => ?_⟩
    · simp [ct0, ju]
    · simp [ct0, ju]
    · simp [ct0, ju]
    · simp [ct0, ju]
    · simp [ct0, ju]
    · by_cases e : j = s
      · rw [if_pos ⟨e, c⟩]
        simp [ct0, ju, e]
      · rw [if_neg (fun u => e u.1)]
        simp [ct0, ju, e]
    · unfold ct0
      rw [ju_c _ _ (by omega), ju_c _ _ (by omega), ju_c _ _ (by omega), ju_c _ _ (by omega), ju_c _ _ (by omega), ju_c _ _ (by omega)]
theorem ct0_f {K : jm} {x s : Int} : (∀ j : Int, ct0 K x s 636 j = if j = s then jl_w (K 636 s + 1) else K 636 j) ∧ (∀ j : Int, ct0 K x s 637 j = if j = s then jl_w (K 637 s + K 600 x) else K 637 j) ∧ (∀ j : Int, ct0 K x s 634 j = if j = s then 1 else K 634 j) ∧ ∀ (a : Nat) (j : Int), (a < 634 ∨ a = 635 ∨ 637 < a) → ct0 K x s a j = K a j := by
  refine ⟨fun j => ?_, fun j => ?_, fun j => ?_, fun a j ha => ?_⟩
  · simp [ct0, ju]
  · simp [ct0, ju]
  · simp [ct0, ju]
  · unfold ct0
    rw [ju_c _ _ (by omega), ju_c _ _ (by omega), ju_c _ _ (by omega)]
theorem k6_f {B : jm} {g n t st : Int} : K6 B g n t st 638 g = st ∧ K6 B g n t st 639 g = t + lvf n st ∧ (∀ (a : Nat) (j : Int), (a ≠ 638 ∧ a ≠ 639) ∨ j ≠ g → K6 B g n t st a j = B a j) := by
  refine ⟨?_, ?_, fun a j h => ?_⟩
  · simp [K6, ju]
  · simp [K6, ju]
  · unfold K6
    rw [ju_ne _ _ (by omega), ju_ne _ _ (by omega)]
end
