/-! ===== the reference: gather, what stands at its joints ===== -/
def LKO (T M : jm) : Prop := (∀ (b : Nat) (i : Int), b ≠ 598 → b ≠ 603 → b ≠ 604 → b ≠ 605 → M b i = T b i) ∧ ∀ i : Int, i ≠ 6 → i ≠ 10 → i ≠ 11 → i ≠ 12 → M 598 i = T 598 i
def PX1 (T M : jm) (x h t k a : Int) : Prop := HT M (rf T x) (T 600 x) (M 598 6) ∧ (HE (rf T x) (T 600 x) (M 598 6) ∧ hX (rf T x) (T 600 x) (M 598 6) = -1) ∧ (h = pcf (rf T x) (T 600 x) (M 598 6) ∧ h ≠ -1) ∧ t = ntf (rf T x) (T 600 x) (M 598 6) ∧ k = hX (rf T x) (T 600 x) h ∧ a = hY (rf T x) (T 600 x) h ∧ rf M x = rf T x ∧ ((0 ≤ x ∧ x ≤ 23) ∧ T 600 x ≠ -1) ∧ LKO T M
theorem hx6_z {M : jm} {f : Int → Int} {N : Int} (h : HQ6 M f N) (h0 : M 598 10 = 0) : hX f N (M 598 6) = -1 := by
  rcases h.2.2 with g | g
  · exact g.1
  · exact absurd (g.2.2.1.symm.trans h0) g.2.1
theorem hx6_n {M : jm} {f : Int → Int} {N : Int} (h : HQ6 M f N) (h0 : M 598 10 ≠ 0) : hX f N (M 598 6) ≠ -1 := by
  rcases h.2.2 with g | g
  · exact absurd g.2.1 h0
  · exact g.1
theorem pcf_3 {f : Int → Int} {N C : Int} (hC : 0 ≤ C) (h : hX f N (pcf f N C) = 6) (h1 : pcf f N C ≠ -1) : hX f N (ntf f N C) = 3 ∧ (0 ≤ ntf f N C ∧ ntf f N C < C) := by
  have hn := ntf_r (f := f) (N := N) hC
  unfold pcf at h h1
  split at h
  · rename_i q; rw [if_pos q] at h1; exact absurd rfl h1
  · rename_i q
    have hn2 := hn.resolve_left q
    split at h
    · rename_i q2
      rw [kA_i hn2.1] at q2
      split at h
      · omega
      · rename_i q3
        rw [if_neg q, if_pos (by rw [kA_i hn2.1]; exact q2), if_neg q3] at h1
        exact absurd rfl h1
    · rename_i q2
      rw [kA_i hn2.1] at q2
      exact ⟨by omega, hn2.1⟩
theorem PX1.c {T M : jm} {x h t k a : Int} (p : PX1 T M x h t k a) : (0 ≤ h ∧ h < M 598 6) ∧ ((k = 2 ∧ t = h) ∨ (k = 6 ∧ hX (rf T x) (T 600 x) t = 3 ∧ (0 ≤ t ∧ t < M 598 6))) := by
  obtain ⟨p1, p2, p3, p4, p5, p6, p7, p8, p9⟩ := p
  have hC := p2.1.1.1
  have q := (pcf_r (f := rf T x) (N := T 600 x) hC).resolve_left (by rw [← p3.1]; exact p3.2)
  rw [← p3.1] at q
  refine ⟨q.1, ?_⟩
  rcases q.2 with u | u
  · exact Or.inl ⟨by rw [p5]; exact u.1, by rw [p4]; exact u.2.symm⟩
  · refine Or.inr ⟨by rw [p5]; exact u, ?_⟩
    have w := pcf_3 hC (by rw [← p3.1]; exact u) (by rw [← p3.1]; exact p3.2)
    rw [p4]
    exact w
theorem PX1.v {T M : jm} {x h t k a : Int} (p : PX1 T M x h t k a) (j : Int) (hj : 0 ≤ j ∧ j < xcv_2 k) : vA (rf T x) (T 600 x) (M 598 6) h j = vof (rf M x) (hZ (rf T x) (T 600 x) h) k a j := by
  rw [vA_k p.c.1 p.2.2.2.2.1.symm hj, p.2.2.2.2.2.2.1, p.2.2.2.2.2.1]
theorem PX1.n {T M : jm} {x h t k a : Int} (p : PX1 T M x h t k a) (hk : k = 6) (j : Int) (hj : 0 ≤ j ∧ j < 7) : vA (rf T x) (T 600 x) (M 598 6) t j = vof (rf M x) (hZ (rf T x) (T 600 x) t) 3 (hY (rf T x) (T 600 x) t) j := by
  rcases p.c.2 with u | u
  · omega
  · rw [vA_k u.2.2 u.2.1 (by rw [show xcv_2 3 = 7 by decide +kernel]; exact hj), p.2.2.2.2.2.2.1]
theorem PX1.k {T M : jm} {x h t k a : Int} (p : PX1 T M x h t k a) : kA (rf T x) (T 600 x) (M 598 6) h = k := by rw [kA_i p.c.1]; exact p.2.2.2.2.1.symm
theorem PX1.kt {T M : jm} {x h t k a : Int} (p : PX1 T M x h t k a) : (k = 2 → kA (rf T x) (T 600 x) (M 598 6) t = 2) ∧ (k = 6 → kA (rf T x) (T 600 x) (M 598 6) t = 3) := by
  refine ⟨fun hk => ?_, fun hk => ?_⟩
  · rcases p.c.2 with u | u
    · rw [u.2, p.k, hk]
    · omega
  · rcases p.c.2 with u | u
    · omega
    · rw [kA_i u.2.2]; exact u.2.1
/-- offset, flag, next, number, sender, getter of the piece, as the reference reads them -/
theorem PX1.o2 {T M : jm} {x h t k a r : Int} (p : PX1 T M x h t k a) (hk : k = 2) (hr : ∀ z : Int, r = vof (rf M x) z 2 a 5) : 8 * r = ofs (rf T x) (T 600 x) (M 598 6) h := by
  unfold ofs
  subst hk
  rw [p.k, if_pos rfl, p.v 5 (by decide +kernel), ← hr]
theorem PX1.o6 {T M : jm} {x h t k a r s : Int} (p : PX1 T M x h t k a) (hk : k = 6) (hr : r = tw (rf M x) (a + 2)) (h0 : 0 ≤ r ∧ r ≤ 65535) (hs : s = r / 8) : 8 * s = ofs (rf T x) (T 600 x) (M 598 6) h := by
  unfold ofs
  subst hk
  rw [p.k, if_neg (by decide), p.v 1 (by decide +kernel), vof_6_1, nbs_2t, ← hr, hs]
  omega
theorem PX1.m2 {T M : jm} {x h t k a r : Int} (p : PX1 T M x h t k a) (hk : k = 2) (hr : ∀ z : Int, r = vof (rf M x) z 2 a 4) : r % 2 = mrf (rf T x) (T 600 x) (M 598 6) h := by
  unfold mrf
  subst hk
  rw [p.k, if_pos rfl, p.v 4 (by decide +kernel), ← hr]
theorem PX1.m6 {T M : jm} {x h t k a r : Int} (p : PX1 T M x h t k a) (hk : k = 6) (hr : r = tw (rf M x) (a + 2)) (h0 : 0 ≤ r ∧ r ≤ 65535) : r % 2 = mrf (rf T x) (T 600 x) (M 598 6) h := by
  unfold mrf
  subst hk
  rw [p.k, if_neg (by decide), p.v 2 (by decide +kernel), vof_6_2, nbs_2t, ← hr]
  omega
theorem PX1.e2 {T M : jm} {x h t k a r : Int} (p : PX1 T M x h t k a) (hk : k = 2) (hr : r = M 601 (400 * x + (a + 9))) (h0 : 0 ≤ r ∧ r ≤ 255) : r = vA (rf T x) (T 600 x) (M 598 6) h (if kA (rf T x) (T 600 x) (M 598 6) h = 2 then 7 else 0) := by
  subst hk
  rw [p.k, if_pos rfl, p.v 7 (by decide +kernel), vof_2_7, nbs_1, rf_a, ← hr]
  omega
theorem PX1.e6 {T M : jm} {x h t k a r : Int} (p : PX1 T M x h t k a) (hk : k = 6) (hr : r = M 601 (400 * x + a)) (h0 : 0 ≤ r ∧ r ≤ 255) : r = vA (rf T x) (T 600 x) (M 598 6) h (if kA (rf T x) (T 600 x) (M 598 6) h = 2 then 7 else 0) := by
  subst hk
  rw [p.k, if_neg (by decide), p.v 0 (by decide +kernel), vof_6_0, nbs_1, rf_a, Int.add_zero, ← hr]
  omega
theorem PX1.d2 {T M : jm} {x h t k a r : Int} (p : PX1 T M x h t k a) (hk : k = 2) (hr : r = tw (rf M x) (a + 4)) (h0 : 0 ≤ r ∧ r ≤ 65535) : r = vA (rf T x) (T 600 x) (M 598 6) h 3 := by
  subst hk
  rw [p.v 3 (by decide +kernel), vof_2_3, nbs_2t, ← hr]
  omega
theorem PX1.d6 {T M : jm} {x h t k a r : Int} (p : PX1 T M x h t k a) (hk : k = 6) (hr : r = nbs (rf M x) (a + 4) 4) (h0 : 0 ≤ r ∧ r ≤ 4294967295) : r = vA (rf T x) (T 600 x) (M 598 6) h 3 := by
  subst hk
  rw [p.v 3 (by decide +kernel), vof_6_3, ← hr]
  omega
theorem PX1.a2 {T M : jm} {x h t k a r s j : Int} (p : PX1 T M x h t k a) (hk : k = 2) (hj : j = 9 + s) (hs : s = 0 ∨ s = 1) (hr : ∀ z : Int, r = vof (rf M x) z 2 a j) : r = adf (rf T x) (T 600 x) (M 598 6) t s := by
  have e : t = h := by
    rcases p.c.2 with u | u
    · exact u.2
    · omega
  subst hk
  subst hj
  unfold adf
  rw [p.kt.1 rfl, if_pos rfl, e, p.v (9 + s) (by rw [show xcv_2 2 = 11 by decide +kernel]; omega), ← hr]
theorem PX1.a6 {T M : jm} {x h t k a r s j y : Int} (p : PX1 T M x h t k a) (hk : k = 6) (hj : j = 5 + s) (hs : s = 0 ∨ s = 1) (hy : y = hY (rf T x) (T 600 x) t) (hr : ∀ z : Int, r = vof (rf M x) z 3 y j) : r = adf (rf T x) (T 600 x) (M 598 6) t s := by
  subst hj
  unfold adf
  rw [p.kt.2 hk, if_neg (by decide), p.n hk (5 + s) (by omega), ← hy, ← hr]
