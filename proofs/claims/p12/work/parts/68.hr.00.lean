/-! ===== the reference: headers, exactly ===== -/
/-- the bytes of packet x of the reference -/
noncomputable def rf (M : jm) (x : Int) : Int → Int := fun j => M 601 (400 * x + j)
theorem rf_a (M : jm) (x j : Int) : rf M x j = M 601 (400 * x + j) := rfl
theorem rf_e {M M' : jm} {x : Int} (h : ∀ i : Int, M' 601 i = M 601 i) : rf M' x = rf M x := funext (fun j => h _)
theorem hls_all (x : Int) : (x ≠ 0 ∨ hls x = 4) ∧ (x ≠ 1 ∨ hls x = 4) ∧ (x ≠ 2 ∨ hls x = 20) ∧ (x ≠ 3 ∨ hls x = 24) ∧ (x ≠ 4 ∨ hls x = 2) ∧ (x ≠ 5 ∨ hls x = 2) ∧ (x ≠ 6 ∨ hls x = 8) ∧ (x ≠ 7 ∨ hls x = 8) ∧ (x ≠ 8 ∨ hls x = 20) ∧ (x ≠ 9 ∨ hls x = 8) ∧ (x ≠ 10 ∨ hls x = 4) ∧ (x ≠ 11 ∨ hls x = 1) := by
  unfold hls
  (repeat' split) <;> omega
theorem hb_i {f : Int → Int} {n i : Int} (h0 : 0 ≤ i) (h1 : i < n) : hb f n i = f i := by
  unfold hb
  rw [if_pos ⟨h0, h1⟩]
theorem hb_o {f : Int → Int} {n i : Int} (h1 : n ≤ i) : hb f n i = 0 := by
  unfold hb
  rw [if_neg (by omega)]
theorem hsF_c {f : Int → Int} {n c bk k a : Int} (hc : c < 12) (hm : ¬ ((k = 4 ∧ bk ≠ 3) ∨ ((k = 6 ∨ k = 5) ∧ bk ≠ 3 ∧ bk ≠ 4 ∧ bk ≠ 5))) : hsF f n c bk k a = hsF f n 0 3 k a ∧ hsW f n c bk k a = hsW f n 0 3 k a := by
  unfold hsF hsW
  rw [if_neg (show ¬ 12 ≤ c by omega), if_neg hm, if_neg (show ¬ 12 ≤ c by omega), if_neg hm, if_neg (show ¬ (12 : Int) ≤ 0 by decide), if_neg (show ¬ ((k = 4 ∧ (3 : Int) ≠ 3) ∨ ((k = 6 ∨ k = 5) ∧ (3 : Int) ≠ 3 ∧ (3 : Int) ≠ 4 ∧ (3 : Int) ≠ 5)) by omega), if_neg (show ¬ (12 : Int) ≤ 0 by decide), if_neg (show ¬ ((k = 4 ∧ (3 : Int) ≠ 3) ∨ ((k = 6 ∨ k = 5) ∧ (3 : Int) ≠ 3 ∧ (3 : Int) ≠ 4 ∧ (3 : Int) ≠ 5)) by omega)]
  exact ⟨rfl, rfl⟩
theorem hsF_11 {f : Int → Int} {n c bk a : Int} (hc : c < 12) (ha : a + 1 ≤ n) : hsF f n c bk 11 a = 0 ∧ hsZ f n 11 a = n - a := by
  have hz : hsZ f n 11 a = n - a := rfl
  have hl : hls 11 = 1 := rfl
  refine ⟨?_, hz⟩
  unfold hsF
  rw [hz, hl]
  (repeat' split) <;> omega
theorem hsF_m {f : Int → Int} {n c bk k a : Int} (hc : c < 12) (hm : (k = 4 ∧ bk ≠ 3) ∨ ((k = 6 ∨ k = 5) ∧ bk ≠ 3 ∧ bk ≠ 4 ∧ bk ≠ 5)) : hsF f n c bk k a = 3 ∧ hsW f n c bk k a = a := by
  unfold hsF hsW
  rw [if_neg (show ¬ 12 ≤ c by omega), if_pos hm, if_neg (show ¬ 12 ≤ c by omega), if_pos hm]
  exact ⟨rfl, rfl⟩
theorem hsW_12 {f : Int → Int} {n c bk k a : Int} (h : 12 ≤ c) : hsW f n c bk k a = a := by
  unfold hsW
  rw [if_pos h]
theorem hsN_z {f : Int → Int} {n k a z z2 : Int} (h : k ≠ 7 ∨ z = z2) : hsN f n k a z = hsN f n k a z2 := by
  rcases h with h | h
  · unfold hsN
    rw [if_neg h, if_neg h]
  · rw [h]
theorem hsN_11 (f : Int → Int) (n a z : Int) : hsN f n 11 a z = 11 := rfl
noncomputable def HQ6 (M : jm) (f : Int → Int) (N : Int) : Prop := (0 ≤ M 598 6 ∧ M 598 6 ≤ 12) ∧ HR M 602 f N (M 598 6) ∧ ((hX f N (M 598 6) = -1 ∧ M 598 10 = 0 ∧ M 598 11 = -1 ∧ M 598 12 = -1) ∨ (hX f N (M 598 6) ≠ -1 ∧ hF f N (M 598 6) ≠ 0 ∧ M 598 10 = hF f N (M 598 6) ∧ M 598 11 = hW f N (M 598 6) ∧ M 598 12 = hX f N (M 598 6)))
theorem HQ6.e {M : jm} {f : Int → Int} {N : Int} (h : HQ6 M f N) : HE f N (M 598 6) := ⟨h.1, fun i h0 h1 => (h.2.1 i h0 h1).1, fun q => by
  rcases h.2.2 with g | g
  · exact q.1 g.1
  · exact g.2.1 q.2⟩
noncomputable def LP6 (M : jm) (f : Int → Int) (N o k a : Int) : Prop := HR M 602 f N (M 598 6) ∧ M 598 10 = 0 ∧ M 598 11 = -1 ∧ M 598 12 = -1 ∧ ((o = 1 ∧ a = hY f N (M 598 6) ∧ ((k = 11 ∧ N ≤ a ∧ hX f N (M 598 6) = -1) ∨ (¬ (k = 11 ∧ N ≤ a) ∧ k = hX f N (M 598 6)))) ∨ (o = 0 ∧ hX f N (M 598 6) = -1))
theorem LP6.z {M : jm} {f : Int → Int} {N : Int} (h6 : M 598 6 = 0) (h0 : M 598 10 = 0) (h1 : M 598 11 = -1) (h2 : M 598 12 = -1) : LP6 M f N 1 0 0 := ⟨by rw [h6]; exact fun i g0 g1 => absurd g1 (by omega), h0, h1, h2, Or.inl ⟨rfl, by rw [h6]; rfl, Or.inr ⟨by omega, by rw [h6]; rfl⟩⟩⟩
theorem LP6.e {M : jm} {f : Int → Int} {N o k a : Int} (h : LP6 M f N o k a) (h6 : 0 ≤ M 598 6 ∧ M 598 6 ≤ 12) (he : o = 0 ∨ (k = 11 ∧ N ≤ a)) (ho : o = 0 ∨ o = 1) : HQ6 M f N := by
  obtain ⟨hR, h0, h1, h2, h⟩ := h
  refine ⟨h6, hR, Or.inl ⟨?_, h0, h1, h2⟩⟩
  rcases h with ⟨g1, g2, g3 | g3⟩ | g
  · exact g3.2.2
  · exact absurd (by omega) g3.1
  · exact g.2
theorem HR.o {M M1 : jm} {f : Int → Int} {N n : Int} (h : HR M 602 f N n) (g : ∀ (b : Nat) (i : Int), b ≠ 598 → M1 b i = M b i) : HR M1 602 f N n := fun i h0 h1 => by
  have q := h i h0 h1
  rw [g (602 + 1) i (by decide), g (602 + 2) i (by decide), g (602 + 3) i (by decide)]
  exact q
/-- the reference finds something: what against says -/
theorem LP6.a {M M1 : jm} {f : Int → Int} {N o k a b : Int} (h : LP6 M f N o k a) (ho1 : o = 1) (h6 : 0 ≤ M 598 6 ∧ M 598 6 ≤ 12) (hn : ¬ (k = 11 ∧ N ≤ a)) (hk : k ≠ -1) (hb : (M 598 6 = 12 ∧ b = 6) ∨ (M 598 6 ≠ 12 ∧ ((k = 4 ∧ bkf (M 603) (M 598 6) ≠ 3) ∨ ((k = 6 ∨ k = 5) ∧ bkf (M 603) (M 598 6) ≠ 3 ∧ bkf (M 603) (M 598 6) ≠ 4 ∧ bkf (M 603) (M 598 6) ≠ 5)) ∧ b = 3)) (g : ∀ (b : Nat) (i : Int), b ≠ 598 → M1 b i = M b i) (e6 : M1 598 6 = M 598 6) (w : M1 598 10 = b ∧ M1 598 11 = a ∧ M1 598 12 = k) : HQ6 M1 f N := by
  subst ho1
  obtain ⟨hR, h0, h1, h2, h⟩ := h
  rcases h with ⟨g1, g2, g3 | g3⟩ | ⟨g1, g2⟩
  · exact absurd ⟨g3.1, g3.2.1⟩ hn
  · have eb : bkf (M 603) (M 598 6) = bkf (hX f N) (M 598 6) := bkf_e (fun i h0 hi => (hR i h0 hi).2.1)
    rw [eb] at hb
    have hq : hF f N (M 598 6) = b ∧ hW f N (M 598 6) = a := by
      unfold hF hW
      rw [← g3.2, ← g2]
      rcases hb with hb | hb
      · rw [hsF_12 (by omega), hsW_12 (by omega)]
        exact ⟨hb.2.symm, rfl⟩
      · rw [(hsF_m (by omega) hb.2.1).1, (hsF_m (by omega) hb.2.1).2]
        exact ⟨hb.2.2.symm, rfl⟩
    refine ⟨by rw [e6]; exact h6, by rw [e6]; exact hR.o g, Or.inr ?_⟩
    rw [e6, hq.1, hq.2, ← g3.2]
    exact ⟨hk, by omega, w.1, w.2.1, w.2.2⟩
  · exact absurd g1 (by decide)
noncomputable def MS6 (M M1 : jm) (f : Int → Int) (N k a r : Int) : Prop := (hsF f N 0 3 k a ≠ 0 ∧ r = -1 ∧ M1 598 10 = hsF f N 0 3 k a ∧ M1 598 11 = hsW f N 0 3 k a ∧ M1 598 12 = k) ∨ (hsF f N 0 3 k a = 0 ∧ r ≠ -1 ∧ r = hsZ f N k a ∧ M1 598 10 = M 598 10 ∧ M1 598 11 = M 598 11 ∧ M1 598 12 = M 598 12)
/-- or measure -/
theorem LP6.m {M M1 : jm} {f : Int → Int} {N o k a r : Int} (h : LP6 M f N o k a) (ho1 : o = 1) (h6 : 0 ≤ M 598 6 ∧ M 598 6 ≤ 12) (hn : ¬ (k = 11 ∧ N ≤ a)) (hk : k ≠ -1) (hb : M 598 6 ≠ 12 ∧ ¬ ((k = 4 ∧ bkf (M 603) (M 598 6) ≠ 3) ∨ ((k = 6 ∨ k = 5) ∧ bkf (M 603) (M 598 6) ≠ 3 ∧ bkf (M 603) (M 598 6) ≠ 4 ∧ bkf (M 603) (M 598 6) ≠ 5))) (g : ∀ (b : Nat) (i : Int), b ≠ 598 → M1 b i = M b i) (e6 : M1 598 6 = M 598 6) (w : MS6 M M1 f N k a r) (hr : r = -1) : HQ6 M1 f N := by
  subst ho1
  obtain ⟨hR, h0, h1, h2, h⟩ := h
  rcases h with ⟨g1, g2, g3 | g3⟩ | ⟨g1, g2⟩
  · exact absurd ⟨g3.1, g3.2.1⟩ hn
  · have eb : bkf (M 603) (M 598 6) = bkf (hX f N) (M 598 6) := bkf_e (fun i h0 hi => (hR i h0 hi).2.1)
    rw [eb] at hb
    rcases w with w | w
    · have q := hsF_c (f := f) (n := N) (a := a) (show M 598 6 < 12 by omega) hb.2
      have hq : hF f N (M 598 6) = hsF f N 0 3 k a ∧ hW f N (M 598 6) = hsW f N 0 3 k a := by
        unfold hF hW
        rw [← g3.2, ← g2]
        exact q
      refine ⟨by rw [e6]; exact h6, by rw [e6]; exact hR.o g, Or.inr ?_⟩
      rw [e6, hq.1, hq.2, ← g3.2]
      exact ⟨hk, w.1, w.2.2.1, w.2.2.2.1, w.2.2.2.2⟩
    · exact absurd hr w.2.1
  · exact absurd g1 (by decide)
/-- a header more -/
theorem LP6.s {M M1 : jm} {f : Int → Int} {N o k a r c o2 k2 : Int} (h : LP6 M f N o k a) (ho1 : o = 1) (h6 : 0 ≤ M 598 6 ∧ M 598 6 ≤ 12) (hn : ¬ (k = 11 ∧ N ≤ a)) (hk : k ≠ -1) (hb : M 598 6 ≠ 12 ∧ ¬ ((k = 4 ∧ bkf (M 603) (M 598 6) ≠ 3) ∨ ((k = 6 ∨ k = 5) ∧ bkf (M 603) (M 598 6) ≠ 3 ∧ bkf (M 603) (M 598 6) ≠ 4 ∧ bkf (M 603) (M 598 6) ≠ 5))) (g : ∀ (b : Nat) (i : Int), b ≠ 598 → M1 b i = M b i) (e6 : M1 598 6 = M 598 6) (ec : M1 598 6 = c) (w : (k ≠ 11 ∧ r ≠ -1 ∧ MS6 M M1 f N k a r) ∨ (k = 11 ∧ r = N - a ∧ M1 = M)) (hk2 : (k = 11 ∧ o2 = 0) ∨ (k ≠ 11 ∧ o2 = 1 ∧ k2 = hsN f N k a (a + 8))) : LP6 (ju (ju (ju (ju M1 603 c k) 604 c a) 605 c r) 598 6 (c + 1)) f N o2 k2 (a + r) := by
  subst ho1
  obtain ⟨hR, h0, h1, h2, h⟩ := h
  rcases h with ⟨g1, g2, g3 | g3⟩ | ⟨g1, g2⟩
  · exact absurd ⟨g3.1, g3.2.1⟩ hn
  · have eb : bkf (M 603) (M 598 6) = bkf (hX f N) (M 598 6) := bkf_e (fun i h0 hi => (hR i h0 hi).2.1)
    rw [eb] at hb
    have ec2 : M 598 6 = c := by rw [← e6]; exact ec
    have hx : hsF f N 0 3 k a = 0 ∧ r = hsZ f N k a ∧ M1 598 10 = 0 ∧ M1 598 11 = -1 ∧ M1 598 12 = -1 := by
      rcases w with ⟨_, w1, w2 | w2⟩ | ⟨w1, w2, w3⟩
      · exact absurd w2.2.1 w1
      · exact ⟨w2.1, w2.2.2.1, by omega, by omega, by omega⟩
      · subst w1
        rw [(hsF_11 (f := f) (n := N) (c := 0) (bk := 3) (a := a) (by decide) (by omega)).1, (hsF_11 (f := f) (n := N) (c := 0) (bk := 3) (a := a) (by decide) (by omega)).2, w3]
        exact ⟨rfl, w2, h0, h1, h2⟩
    have q := (hsF_c (f := f) (n := N) (a := a) (show M 598 6 < 12 by omega) hb.2).1
    have ho : hok f N c := by
      rw [← ec2]
      refine ⟨by rw [← g3.2]; exact hk, ?_⟩
      unfold hF
      rw [← g3.2, ← g2, q]
      exact hx.1
    have hz : r = hZ f N c := by
      rw [hx.2.1]
      unfold hZ
      rw [← ec2, ← g3.2, ← g2]
    obtain ⟨s1, s2⟩ := hst_s (f := f) (N := N) (i := c) (by omega)
    rw [← hz, ← ec2, ← g3.2, ← g2] at s1
    rw [← hz, ← ec2, ← g2] at s2
    rw [ec2] at s1 s2
    have r6 : ju (ju (ju (ju M1 603 c k) 604 c a) 605 c r) 598 6 (c + 1) 598 6 = c + 1 := ju_same _ _ _ _
    have ro : ∀ i : Int, i ≠ 6 → ju (ju (ju (ju M1 603 c k) 604 c a) 605 c r) 598 6 (c + 1) 598 i = M1 598 i := fun i hi => by rw [ju_i _ _ hi, ju_c _ _ (by decide), ju_c _ _ (by decide), ju_c _ _ (by decide)]
    refine ⟨?_, by rw [ro 10 (by decide)]; exact hx.2.2.1, by rw [ro 11 (by decide)]; exact hx.2.2.2.1, by rw [ro 12 (by decide)]; exact hx.2.2.2.2, ?_⟩
    · rw [r6]
      intro i j0 j1
      by_cases e : i = c
      · subst e
        refine ⟨ho, ?_, ?_, ?_⟩
        · rw [ju_c _ _ (by decide), ju_c _ _ (by decide), ju_c _ _ (by decide)]
          show ju M1 603 i k 603 i = _
          rw [ju_same, ← ec2]; exact g3.2
        · rw [ju_c _ _ (by decide), ju_c _ _ (by decide)]
          show ju _ 604 i a 604 i = _
          rw [ju_same, ← ec2]; exact g2
        · rw [ju_c _ _ (by decide)]
          show ju _ 605 i r 605 i = _
          rw [ju_same]; exact hz
      · have q := (hR.o g) i j0 (by omega)
        refine ⟨q.1, ?_, ?_, ?_⟩
        · rw [ju_c _ _ (by decide), ju_c _ _ (by decide), ju_c _ _ (by decide), ju_i _ _ e]; exact q.2.1
        · rw [ju_c _ _ (by decide), ju_c _ _ (by decide), ju_i _ _ e, ju_c _ _ (by decide)]; exact q.2.2.1
        · rw [ju_c _ _ (by decide), ju_i _ _ e, ju_c _ _ (by decide), ju_c _ _ (by decide)]; exact q.2.2.2
    · rw [r6]
      rcases hk2 with ⟨k1, k3⟩ | ⟨k1, k3, k4⟩
      · right
        refine ⟨k3, ?_⟩
        rw [s1, k1]
        have hz2 : a + r = N := by
          have := hx.2.1
          rw [k1, (hsF_11 (f := f) (n := N) (c := 0) (bk := 3) (a := a) (by decide) (by omega)).2] at this
          omega
        unfold hsB
        rw [hsN_11, if_pos ⟨rfl, by omega⟩]
      · left
        refine ⟨k3, s2.symm, ?_⟩
        have h7 : k ≠ 7 ∨ a + 8 = a + r := by
          by_cases e7 : k = 7
          · right
            have := hx.2.1
            rw [e7] at this
            have h8 : hsZ f N 7 a = 8 := rfl
            omega
          · exact Or.inl e7
        rw [hsN_z h7] at k4
        rw [s1]
        unfold hsB
        by_cases e : hsN f N k a (a + r) = 11 ∧ N ≤ a + r
        · rw [if_pos e]
          exact Or.inl ⟨by rw [k4]; exact e.1, e.2, rfl⟩
        · rw [if_neg e]
          exact Or.inr ⟨by rw [k4]; exact e, k4⟩
  · exact absurd g1 (by decide)
