section
theorem LDR.o {T M : jm} {g x f o m k u v w : Int} (h : LDR T M g x f o m k u v w) (hk : 0 ≤ k) (ho : 0 ≤ o) (hm : o + k < m) (hm3 : m ≤ 360) (hv : M 616 (360 * g + o + k) ≠ 0) (hd : M 615 (360 * g + o + k) ≠ -1) : LDR T M g x f o m (k + 1) u (v + 1) w := by
  have e := (mlf_s (m := m) hk ho).1 hm
  obtain ⟨h1, h2, h3, h4, h5⟩ := h
  have q := h1 (o + k) (by omega) (by omega)
  unfold glay at q
  rw [if_neg (by omega)] at q
  have q2 : wR M g (o + k) = M 615 (360 * g + o + k) := by
    unfold wR
    rw [show 360 * g + (o + k) = 360 * g + o + k by omega, if_pos hv]
  have q3 : wR T g (o + k) ≠ -1 := by rw [← q, q2]; exact hd
  unfold LDR
  rw [e.1, e.2]
  rw [e.2] at h1 h2 h3 h4
  refine ⟨fun j j0 j1 => ?_, ?_, by omega, by omega, h5⟩
  · rw [h1 j j0 j1]
    unfold glay
    by_cases c : o ≤ j ∧ j < o + k ∧ wR T g j = -1
    · rw [if_pos c, if_pos ⟨c.1, by omega, c.2.2⟩]
    · rw [if_neg c, if_neg (by
        intro d
        by_cases e1 : j = o + k
        · subst e1; exact q3 d.2.2
        · exact c ⟨d.1, by omega, d.2.2⟩)]
  · rw [gov_s hk, if_neg q3, h2]
theorem LDR.w {T M : jm} {g x f o m k u v w b : Int} (h : LDR T M g x f o m k u v w) (hg : 0 ≤ g) (hk : 0 ≤ k) (ho : 0 ≤ o) (hm : o + k < m) (hm3 : m ≤ 360) (hv : M 616 (360 * g + o + k) = 0) (hb : b = rf T x (f + k)) : LDR T (ju (ju M 616 (360 * g + o + k) 1) 615 (360 * g + o + k) b) g x f o m (k + 1) u v (w + 1) := by
  have e := (mlf_s (m := m) hk ho).1 hm
  obtain ⟨h1, h2, h3, h4, h5⟩ := h
  have q := h1 (o + k) (by omega) (by omega)
  unfold glay at q
  rw [if_neg (by omega)] at q
  have q2 : wR M g (o + k) = -1 := by
    unfold wR
    rw [show 360 * g + (o + k) = 360 * g + o + k by omega, if_neg (by omega)]
  rw [q2] at q
  unfold LDR
  rw [e.1, e.2]
  rw [e.2] at h1 h2 h3 h4
  refine ⟨fun j j0 j1 => ?_, ?_, by omega, by omega, fun j hj => ?_⟩
  · by_cases e1 : j = o + k
    · subst e1
      unfold glay wR
      rw [show 360 * g + (o + k) = 360 * g + o + k by omega, ju_c _ _ (by decide), ju_same, if_pos (by decide), ju_same]
      rw [if_pos ⟨by omega, by omega, by
        have q5 := q
        unfold wR at q5
        rw [show 360 * g + (o + k) = 360 * g + o + k by omega] at q5
        exact q5.symm⟩, hb, show f + (o + k - o) = f + k by omega]
    · have q4 : wR (ju (ju M 616 (360 * g + o + k) 1) 615 (360 * g + o + k) b) g j = wR M g j := by
        unfold wR
        rw [ju_c _ _ (by decide), ju_i _ _ (by omega), ju_i _ _ (by omega), ju_c _ _ (by decide)]
      rw [q4, h1 j j0 j1]
      unfold glay
      by_cases c : o ≤ j ∧ j < o + k ∧ wR T g j = -1
      · rw [if_pos c, if_pos ⟨c.1, by omega, c.2.2⟩]
      · rw [if_neg c, if_neg (by intro d; exact c ⟨d.1, by omega, d.2.2⟩)]
  · rw [gov_s hk, if_pos q.symm, h2]; omega
  · refine ⟨?_, ?_⟩
    · rw [ju_c _ _ (by decide), ju_i _ _ (by omega)]; exact (h5 j hj).1
    · rw [ju_i _ _ (by omega), ju_c _ _ (by decide)]; exact (h5 j hj).2
theorem ld_end {T M M2 : jm} {g x f o m k c u v w s5 : Int} (h : LDR T M g x f o m k u v w) (hc : k = c) (hm : m = lpf (M 614 g)) (e : M2 = ju (ju (ju (ju (ju (ju M 598 34 1) 622 0 w) 622 1 v) 622 2 u) 622 3 s5) 622 4 (M 614 g)) : ((∀ j : Int, 0 ≤ j → j < 360 → wR M2 g j = glay (wR T g) (rf T x) o f (mlf c o (lpf (M 614 g))) j) ∧ (∀ j : Int, (j < 360 * g ∨ 360 * g + 360 ≤ j) → M2 616 j = T 616 j ∧ M2 615 j = T 615 j)) ∧ M2 598 34 = 1 ∧ M2 622 0 = mlf c o (lpf (M 614 g)) - gov (wR T g) o (mlf c o (lpf (M 614 g))).toNat ∧ M2 622 1 = gov (wR T g) o (mlf c o (lpf (M 614 g))).toNat ∧ M2 622 2 = c - mlf c o (lpf (M 614 g)) ∧ M2 622 3 = s5 ∧ M2 622 4 = M 614 g := by
  subst hc
  subst e
  rw [← hm]
  obtain ⟨h1, h2, h3, h4, h5⟩ := h
  refine ⟨⟨fun j j0 j1 => ?_, fun j hj => ?_⟩, ?_, ?_, ?_, ?_, ?_, ?_⟩
  · rw [← h1 j j0 j1]
    unfold wR
    simp only [ju_c _ _ (show (616 : Nat) ≠ 622 by decide), ju_c _ _ (show (616 : Nat) ≠ 598 by decide), ju_c _ _ (show (615 : Nat) ≠ 622 by decide), ju_c _ _ (show (615 : Nat) ≠ 598 by decide)]
  · simp only [ju_c _ _ (show (616 : Nat) ≠ 622 by decide), ju_c _ _ (show (616 : Nat) ≠ 598 by decide), ju_c _ _ (show (615 : Nat) ≠ 622 by decide), ju_c _ _ (show (615 : Nat) ≠ 598 by decide)]
    exact h5 j hj
  · rw [ju_c _ _ (by decide), ju_c _ _ (by decide), ju_c _ _ (by decide), ju_c _ _ (by decide), ju_c _ _ (by decide), ju_same]
  · rw [ju_i _ _ (by decide), ju_i _ _ (by decide), ju_i _ _ (by decide), ju_i _ _ (by decide), ju_same]; omega
  · rw [ju_i _ _ (by decide), ju_i _ _ (by decide), ju_i _ _ (by decide), ju_same]; exact h2
  · rw [ju_i _ _ (by decide), ju_i _ _ (by decide), ju_same]; exact h4
  · rw [ju_i _ _ (by decide), ju_same]
  · rw [ju_same]
end
