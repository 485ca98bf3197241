/-! ===== the reference: headers, exactly ===== -/
/-- the bytes of packet x of the reference -/
noncomputable def rf (M : jm) (x : Int) : Int → Int := fun j => M 601 (400 * x + j)
theorem rf_a (M : jm) (x j : Int) : rf M x j = M 601 (400 * x + j) := rfl
theorem rf_e {M M' : jm} {x : Int} (h : ∀ i : Int, M' 601 i = M 601 i) : rf M' x = rf M x := funext (fun j => h _)
theorem hls_all (x : Int) : (x ≠ 0 ∨ hls x = 4) ∧ (x ≠ 1 ∨ hls x = 4) ∧ (x ≠ 2 ∨ hls x = 20) ∧ (x ≠ 3 ∨ hls x = 24) ∧ (x ≠ 4 ∨ hls x = 2) ∧ (x ≠ 5 ∨ hls x = 2) ∧ (x ≠ 6 ∨ hls x = 8) ∧ (x ≠ 7 ∨ hls x = 8) ∧ (x ≠ 8 ∨ hls x = 20) ∧ (x ≠ 9 ∨ hls x = 8) ∧ (x ≠ 10 ∨ hls x = 4) ∧ (x ≠ 11 ∨ hls x = 1) := by
  unfold hls
  (repeat' split) <;> omega
theorem hb_i {f : Int → Int} {n i : Int} (h0 : 0 ≤ i) (h1 : i < n) : hb f n i = f i := by
  unfold hb
  rw [if_pos ⟨h0, h1⟩]
theorem hb_o {f : Int → Int} {n i : Int} (h1 : n ≤ i) : hb f n i = 0 := by
  unfold hb
  rw [if_neg (by omega)]
theorem hsF_c {f : Int → Int} {n c bk k a : Int} (hc : c < 12) (hm : ¬ ((k = 4 ∧ bk ≠ 3) ∨ ((k = 6 ∨ k = 5) ∧ bk ≠ 3 ∧ bk ≠ 4 ∧ bk ≠ 5))) : hsF f n c bk k a = hsF f n 0 3 k a ∧ hsW f n c bk k a = hsW f n 0 3 k a := by
  unfold hsF hsW
  rw [if_neg (show ¬ 12 ≤ c by omega), if_neg hm, if_neg (show ¬ 12 ≤ c by omega), if_neg hm, if_neg (show ¬ (12 : Int) ≤ 0 by decide), if_neg (show ¬ ((k = 4 ∧ (3 : Int) ≠ 3) ∨ ((k = 6 ∨ k = 5) ∧ (3 : Int) ≠ 3 ∧ (3 : Int) ≠ 4 ∧ (3 : Int) ≠ 5)) by omega), if_neg (show ¬ (12 : Int) ≤ 0 by decide), if_neg (show ¬ ((k = 4 ∧ (3 : Int) ≠ 3) ∨ ((k = 6 ∨ k = 5) ∧ (3 : Int) ≠ 3 ∧ (3 : Int) ≠ 4 ∧ (3 : Int) ≠ 5)) by omega)]
  exact ⟨rfl, rfl⟩
theorem hsF_11 {f : Int → Int} {n c bk a : Int} (hc : c < 12) (ha : a + 1 ≤ n) : hsF f n c bk 11 a = 0 ∧ hsZ f n 11 a = n - a := by
  have hz : hsZ f n 11 a = n - a := rfl
  have hl : hls 11 = 1 := rfl
  refine ⟨?_, hz⟩
  unfold hsF
  rw [hz, hl]
  (repeat' split) <;> omega
theorem hsF_m {f : Int → Int} {n c bk k a : Int} (hc : c < 12) (hm : (k = 4 ∧ bk ≠ 3) ∨ ((k = 6 ∨ k = 5) ∧ bk ≠ 3 ∧ bk ≠ 4 ∧ bk ≠ 5)) : hsF f n c bk k a = 3 ∧ hsW f n c bk k a = a := by
  unfold hsF hsW
  rw [if_neg (show ¬ 12 ≤ c by omega), if_pos hm, if_neg (show ¬ 12 ≤ c by omega), if_pos hm]
  exact ⟨rfl, rfl⟩
theorem hsW_12 {f : Int → Int} {n c bk k a : Int} (h : 12 ≤ c) : hsW f n c bk k a = a := by
  unfold hsW
  rw [if_pos h]
theorem hsN_z {f : Int → Int} {n k a z z2 : Int} (h : k ≠ 7 ∨ z = z2) : hsN f n k a z = hsN f n k a z2 := by
  rcases h with h | h
  · unfold hsN
    rw [if_neg h, if_neg h]
  · rw [h]
theorem hsN_11 (f : Int → Int) (n a z : Int) : hsN f n 11 a z = 11 := rfl
noncomputable def HQ6 (M : jm) (f : Int → Int) (N : Int) : Prop := (0 ≤ M 598 6 ∧ M 598 6 ≤ 12) ∧ HR M 602 f N (M 598 6) ∧ ((hX f N (M 598 6) = -1 ∧ M 598 10 = 0 ∧ M 598 11 = -1 ∧ M 598 12 = -1) ∨ (hX f N (M 598 6) ≠ -1 ∧ hF f N (M 598 6) ≠ 0 ∧ M 598 10 = hF f N (M 598 6) ∧ M 598 11 = hW f N (M 598 6) ∧ M 598 12 = hX f N (M 598 6)))
theorem HQ6.e {M : jm} {f : Int → Int} {N : Int} (h : HQ6 M f N) : HE f N (M 598 6) := ⟨h.1, fun i h0 h1 => (h.2.1 i h0 h1).1, fun q => by
  rcases h.2.2 with g | g
  · exact q.1 g.1
  · exact g.2.1 q.2⟩
noncomputable def LP6 (M : jm) (f : Int → Int) (N o k a : Int) : Prop := HR M 602 f N (M 598 6) ∧ M 598 10 = 0 ∧ M 598 11 = -1 ∧ M 598 12 = -1 ∧ ((o = 1 ∧ a = hY f N (M 598 6) ∧ ((k = 11 ∧ N ≤ a ∧ hX f N (M 598 6) = -1) ∨ (¬ (k = 11 ∧ N ≤ a) ∧ k = hX f N (M 598 6)))) ∨ (o = 0 ∧ hX f N (M 598 6) = -1))
theorem LP6.z {M : jm} {f : Int → Int} {N : Int} (h6 : M 598 6 = 0) (h0 : M 598 10 = 0) (h1 : M 598 11 = -1) (h2 : M 598 12 = -1) : LP6 M f N 1 0 0 := ⟨by rw [h6]; exact fun i g0 g1 => absurd g1 (by omega), h0, h1, h2, Or.inl ⟨rfl, by rw [h6]; rfl, Or.inr ⟨by omega, by rw [h6]; rfl⟩⟩⟩
theorem LP6.e {M : jm} {f : Int → Int} {N o k a : Int} (h : LP6 M f N o k a) (h6 : 0 ≤ M 598 6 ∧ M 598 6 ≤ 12) (he : o = 0 ∨ (k = 11 ∧ N ≤ a)) (ho : o = 0 ∨ o = 1) : HQ6 M f N := by
  obtain ⟨hR, h0, h1, h2, h⟩ := h
  refine ⟨h6, hR, Or.inl ⟨?_, h0, h1, h2⟩⟩
  rcases h with ⟨g1, g2, g3 | g3⟩ | g
  · exact g3.2.2
  · exact absurd (by omega) g3.1
  · exact g.2
theorem HR.o {M M1 : jm} {f : Int → Int} {N n : Int} (h : HR M 602 f N n) (g : ∀ (b : Nat) (i : Int), b ≠ 598 → M1 b i = M b i) : HR M1 602 f N n := fun i h0 h1 => by
  have q := h i h0 h1
  rw [g (602 + 1) i (by decide), g (602 + 2) i (by decide), g (602 + 3) i (by decide)]
  exact q
/-- the reference finds something: what against says -/
theorem LP6.a {M M1 : jm} {f : Int → Int} {N o k a b : Int} (h : LP6 M f N o k a) (ho1 : o = 1) (h6 : 0 ≤ M 598 6 ∧ M 598 6 ≤ 12) (hn : ¬ (k = 11 ∧ N ≤ a)) (hk : k ≠ -1) (hb : (M 598 6 = 12 ∧ b = 6) ∨ (M 598 6 ≠ 12 ∧ ((k = 4 ∧ bkf (M 603) (M 598 6) ≠ 3) ∨ ((k = 6 ∨ k = 5) ∧ bkf (M 603) (M 598 6) ≠ 3 ∧ bkf (M 603) (M 598 6) ≠ 4 ∧ bkf (M 603) (M 598 6) ≠ 5)) ∧ b = 3)) (g : ∀ (b : Nat) (i : Int), b ≠ 598 → M1 b i = M b i) (e6 : M1 598 6 = M 598 6) (w : M1 598 10 = b ∧ M1 598 11 = a ∧ M1 598 12 = k) : HQ6 M1 f N := by
  subst ho1
  obtain ⟨hR, h0, h1, h2, h⟩ := h
  rcases h with ⟨g1, g2, g3 | g3⟩ | ⟨g1, g2⟩
  · exact absurd ⟨g3.1, g3.2.1⟩ hn
  · have eb : bkf (M 603) (M 598 6) = bkf (hX f N) (M 598 6) := bkf_e (fun i h0 hi => (hR i h0 hi).2.1)
    rw [eb] at hb
    have hq : hF f N (M 598 6) = b ∧ hW f N (M 598 6) = a := by
      unfold hF hW
      rw [← g3.2, ← g2]
      rcases hb with hb | hb
      · rw [hsF_12 (by omega), hsW_12 (by omega)]
        exact ⟨hb.2.symm, rfl⟩
      · rw [(hsF_m (by omega) hb.2.1).1, (hsF_m (by omega) hb.2.1).2]
        exact ⟨hb.2.2.symm, rfl⟩
    refine ⟨by rw [e6]; exact h6, by rw [e6]; exact hR.o g, Or.inr ?_⟩
    rw [e6, hq.1, hq.2, ← g3.2]
    exact ⟨hk, by omega, w.1, w.2.1, w.2.2⟩
  · exact absurd g1 (by decide)
noncomputable def MS6 (M M1 : jm) (f : Int → Int) (N k a r : Int) : Prop := (hsF f N 0 3 k a ≠ 0 ∧ r = -1 ∧ M1 598 10 = hsF f N 0 3 k a ∧ M1 598 11 = hsW f N 0 3 k a ∧ M1 598 12 = k) ∨ (hsF f N 0 3 k a = 0 ∧ r ≠ -1 ∧ r = hsZ f N k a ∧ M1 598 10 = M 598 10 ∧ M1 598 11 = M 598 11 ∧ M1 598 12 = M 598 12)
/-- or measure -/
theorem LP6.m {M M1 : jm} {f : Int → Int} {N o k a r : Int} (h : LP6 M f N o k a) (ho1 : o = 1) (h6 : 0 ≤ M 598 6 ∧ M 598 6 ≤ 12) (hn : ¬ (k = 11 ∧ N ≤ a)) (hk : k ≠ -1) (hb : M 598 6 ≠ 12 ∧ ¬ ((k = 4 ∧ bkf (M 603) (M 598 6) ≠ 3) ∨ ((k = 6 ∨ k = 5) ∧ bkf (M 603) (M 598 6) ≠ 3 ∧ bkf (M 603) (M 598 6) ≠ 4 ∧ bkf (M 603) (M 598 6) ≠ 5))) (g : ∀ (b : Nat) (i : Int), b ≠ 598 → M1 b i = M b i) (e6 : M1 598 6 = M 598 6) (w : MS6 M M1 f N k a r) (hr : r = -1) : HQ6 M1 f N := by
  subst ho1
  obtain ⟨hR, h0, h1, h2, h⟩ := h
  rcases h with ⟨g1, g2, g3 | g3⟩ | ⟨g1, g2⟩
  · exact absurd ⟨g3.1, g3.2.1⟩ hn
  · have eb : bkf (M 603) (M 598 6) = bkf (hX f N) (M 598 6) := bkf_e (fun i h0 hi => (hR i h0 hi).2.1)
    rw [eb] at hb
    rcases w with w | w
    · have q := hsF_c (f := f) (n := N) (a := a) (show M 598 6 < 12 by omega) hb.2
      have hq : hF f N (M 598 6) = hsF f N 0 3 k a ∧ hW f N (M 598 6) = hsW f N 0 3 k a := by
        unfold hF hW
        rw [← g3.2, ← g2]
        exact q
      refine ⟨by rw [e6]; exact h6, by rw [e6]; exact hR.o g, Or.inr ?_⟩
      rw [e6, hq.1, hq.2, ← g3.2]
      exact ⟨hk, w.1, w.2.2.1, w.2.2.2.1, w.2.2.2.2⟩
    · exact absurd hr w.2.1
  · exact absurd g1 (by decide)
/-- a header more -/
theorem LP6.s {M M1 : jm} {f : Int → Int} {N o k a r c o2 k2 : Int} (h : LP6 M f N o k a) (ho1 : o = 1) (h6 : 0 ≤ M 598 6 ∧ M 598 6 ≤ 12) (hn : ¬ (k = 11 ∧ N ≤ a)) (hk : k ≠ -1) (hb : M 598 6 ≠ 12 ∧ ¬ ((k = 4 ∧ bkf (M 603) (M 598 6) ≠ 3) ∨ ((k = 6 ∨ k = 5) ∧ bkf (M 603) (M 598 6) ≠ 3 ∧ bkf (M 603) (M 598 6) ≠ 4 ∧ bkf (M 603) (M 598 6) ≠ 5))) (g : ∀ (b : Nat) (i : Int), b ≠ 598 → M1 b i = M b i) (e6 : M1 598 6 = M 598 6) (ec : M1 598 6 = c) (w : (k ≠ 11 ∧ r ≠ -1 ∧ MS6 M M1 f N k a r) ∨ (k = 11 ∧ r = N - a ∧ M1 = M)) (hk2 : (k = 11 ∧ o2 = 0) ∨ (k ≠ 11 ∧ o2 = 1 ∧ k2 = hsN f N k a (a + 8))) : LP6 (ju (ju (ju (ju M1 603 c k) 604 c a) 605 c r) 598 6 (c + 1)) f N o2 k2 (a + r) := by
  subst ho1
  obtain ⟨hR, h0, h1, h2, h⟩ := h
  rcases h with ⟨g1, g2, g3 | g3⟩ | ⟨g1, g2⟩
  · exact absurd ⟨g3.1, g3.2.1⟩ hn
  · have eb : bkf (M 603) (M 598 6) = bkf (hX f N) (M 598 6) := bkf_e (fun i h0 hi => (hR i h0 hi).2.1)
    rw [eb] at hb
    have ec2 : M 598 6 = c := by rw [← e6]; exact ec
    have hx : hsF f N 0 3 k a = 0 ∧ r = hsZ f N k a ∧ M1 598 10 = 0 ∧ M1 598 11 = -1 ∧ M1 598 12 = -1 := by
      rcases w with ⟨_, w1, w2 | w2⟩ | ⟨w1, w2, w3⟩
      · exact absurd w2.2.1 w1
      · exact ⟨w2.1, w2.2.2.1, by omega, by omega, by omega⟩
      · subst w1
        rw [(hsF_11 (f := f) (n := N) (c := 0) (bk := 3) (a := a) (by decide) (by omega)).1, (hsF_11 (f := f) (n := N) (c := 0) (bk := 3) (a := a) (by decide) (by omega)).2, w3]
        exact ⟨rfl, w2, h0, h1, h2⟩
    have q := (hsF_c (f := f) (n := N) (a := a) (show M 598 6 < 12 by omega) hb.2).1
    have ho : hok f N c := by
      rw [← ec2]
      refine ⟨by rw [← g3.2]; exact hk, ?_⟩
      unfold hF
      rw [← g3.2, ← g2, q]
      exact hx.1
    have hz : r = hZ f N c := by
      rw [hx.2.1]
      unfold hZ
      rw [← ec2, ← g3.2, ← g2]
    obtain ⟨s1, s2⟩ := hst_s (f := f) (N := N) (i := c) (by omega)
    rw [← hz, ← ec2, ← g3.2, ← g2] at s1
    rw [← hz, ← ec2, ← g2] at s2
    rw [ec2] at s1 s2
    have r6 : ju (ju (ju (ju M1 603 c k) 604 c a) 605 c r) 598 6 (c + 1) 598 6 = c + 1 := ju_same _ _ _ _
    have ro : ∀ i : Int, i ≠ 6 → ju (ju (ju (ju M1 603 c k) 604 c a) 605 c r) 598 6 (c + 1) 598 i = M1 598 i := fun i hi => by rw [ju_i _ _ hi, ju_c _ _ (by decide), ju_c _ _ (by decide), ju_c _ _ (by decide)]
    refine ⟨?_, by rw [ro 10 (by decide)]; exact hx.2.2.1, by rw [ro 11 (by decide)]; exact hx.2.2.2.1, by rw [ro 12 (by decide)]; exact hx.2.2.2.2, ?_⟩
    · rw [r6]
      intro i j0 j1
      by_cases e : i = c
      · subst e
        refine ⟨ho, ?_, ?_, ?_⟩
        · rw [ju_c _ _ (by decide), ju_c _ _ (by decide), ju_c _ _ (by decide)]
          show ju M1 603 i k 603 i = _
          rw [ju_same, ← ec2]; exact g3.2
        · rw [ju_c _ _ (by decide), ju_c _ _ (by decide)]
          show ju _ 604 i a 604 i = _
          rw [ju_same, ← ec2]; exact g2
        · rw [ju_c _ _ (by decide)]
          show ju _ 605 i r 605 i = _
          rw [ju_same]; exact hz
      · have q := (hR.o g) i j0 (by omega)
        refine ⟨q.1, ?_, ?_, ?_⟩
        · rw [ju_c _ _ (by decide), ju_c _ _ (by decide), ju_c _ _ (by decide), ju_i _ _ e]; exact q.2.1
        · rw [ju_c _ _ (by decide), ju_c _ _ (by decide), ju_i _ _ e, ju_c _ _ (by decide)]; exact q.2.2.1
        · rw [ju_c _ _ (by decide), ju_i _ _ e, ju_c _ _ (by decide), ju_c _ _ (by decide)]; exact q.2.2.2
    · rw [r6]
      rcases hk2 with ⟨k1, k3⟩ | ⟨k1, k3, k4⟩
      · right
        refine ⟨k3, ?_⟩
        rw [s1, k1]
        have hz2 : a + r = N := by
          have := hx.2.1
          rw [k1, (hsF_11 (f := f) (n := N) (c := 0) (bk := 3) (a := a) (by decide) (by omega)).2] at this
          omega
        unfold hsB
        rw [hsN_11, if_pos ⟨rfl, by omega⟩]
      · left
        refine ⟨k3, s2.symm, ?_⟩
        have h7 : k ≠ 7 ∨ a + 8 = a + r := by
          by_cases e7 : k = 7
          · right
            have := hx.2.1
            rw [e7] at this
            have h8 : hsZ f N 7 a = 8 := rfl
            omega
          · exact Or.inl e7
        rw [hsN_z h7] at k4
        rw [s1]
        unfold hsB
        by_cases e : hsN f N k a (a + r) = 11 ∧ N ≤ a + r
        · rw [if_pos e]
          exact Or.inl ⟨by rw [k4]; exact e.1, e.2, rfl⟩
        · rw [if_neg e]
          exact Or.inr ⟨by rw [k4]; exact e, k4⟩
  · exact absurd g1 (by decide)
theorem r_two_x {A : Nat → Option (Nat × (Nat → Int32))} {Q : Option Value → jm → Prop} {M : jm} (hI_M : RI M) (hH_M : RH M) (hS_M : RF M) {x : Int} (h_x : 0 ≤ x ∧ x ≤ 23) {i : Int} (h_i : 0 ≤ i ∧ i ≤ 398) (q : ∀ (r : Int), 0 ≤ r ∧ r ≤ 65535 → r = tw (rf M x) i → Q (some (.int (Int32.ofInt r))) M) : jc A 2 254 [.ref (598), .int (Int32.ofInt (x)), .int (Int32.ofInt (i))] M Q := by
  refine jc_of (m := xm_254) rfl (Nat.le_of_ble_eq_true rfl) rfl ?_
  refine jr.aload_n rfl rfl ?_
  refine jr.iload_n rfl rfl ?_
  refine jr.iload_n rfl rfl ?_
  refine jr_v rfl rfl (Or.inl rfl) rfl rfl (nlt rfl) rfl ⟨rfl, Nat.le_of_ble_eq_true rfl, Nat.le_of_ble_eq_true rfl⟩ rfl (jc.deep (r_one hI_M hH_M hS_M (Kp.rfl _) (by omega) (by omega)  (fun r1 z1 w1_0 => ?_)) (Nat.le_of_ble_eq_true rfl))
  refine jr.bipush rfl (jbp _ (nlt rfl)) ?_
  refine jr.ishl rfl ?_
  refine jr.aload_n rfl rfl ?_
  refine jr.iload_n rfl rfl ?_
  refine jr.iload_n rfl rfl ?_
  refine jr.iconst rfl ?_
  refine jr.iadd rfl ?_
  refine jr_v rfl rfl (Or.inl rfl) rfl rfl (nlt rfl) rfl ⟨rfl, Nat.le_of_ble_eq_true rfl, Nat.le_of_ble_eq_true rfl⟩ rfl (jc.deep (r_one hI_M hH_M hS_M (Kp.rfl _) (by omega) (by omega)  (fun r2 z2 w2_0 => ?_)) (Nat.le_of_ble_eq_true rfl))
  refine jr.ior rfl ?_
  have b3 : j_or (j_shl r1 8) r2 = r1 * 256 + r2 := j_sho (by omega) (by omega)
  generalize j_or (j_shl r1 8) r2 = v3 at b3 ⊢
  exact jr.ireturn rfl rfl rfl (q _ (by omega) (by unfold tw rf; omega))
theorem r_finds_x {A : Nat → Option (Nat × (Nat → Int32))} {Q : Option Value → jm → Prop} {M : jm} (hI_M : RI M) (hH_M : RH M) (hS_M : RF M) {f : Int} (h_f : 0 ≤ f ∧ f ≤ 6) {i : Int} (h_i : (-1) ≤ i ∧ i ≤ 400) {k : Int} (h_k : (-1) ≤ k ∧ k ≤ 11) (q : ∀ (M' : jm), RI M' → RH M' → RF M' → (M' 598 10 = f ∧ M' 598 11 = i ∧ M' 598 12 = k) → (∀ (a : Nat) (i : Int), a ≠ 598 → M' a i = M a i) → (∀ (i : Int), i ≠ 10 → i ≠ 11 → i ≠ 12 → M' 598 i = M 598 i) → Q none M') : jc A 1 259 [.ref (598), .int (Int32.ofInt (f)), .int (Int32.ofInt (i)), .int (Int32.ofInt (k))] M Q := by
  refine jc_of (m := xm_259) rfl (Nat.le_of_ble_eq_true rfl) rfl ?_
  refine jr.aload_n rfl rfl ?_
  refine jr.iload_n rfl rfl ?_
  refine jr.putf (i := 10) (x := f) rfl rfl (nlt rfl) rfl (nlt rfl) rfl rfl rfl rfl rfl ?_
  refine jr.aload_n rfl rfl ?_
  refine jr.iload_n rfl rfl ?_
  refine jr.putf (i := 11) (x := i) rfl rfl (nlt rfl) rfl (nlt rfl) rfl rfl rfl rfl rfl ?_
  refine jr.aload_n rfl rfl ?_
  refine jr.iload_n rfl rfl ?_
  refine jr.putf (i := 12) (x := k) rfl rfl (nlt rfl) rfl (nlt rfl) rfl rfl rfl rfl rfl ?_
  exact jr.vreturn rfl rfl (q _ (RI.u (RI.u (RI.u hI_M (a := 598) (i := 10) (show (0 : Int) ≤ _ ∧ _ ≤ (6 : Int) from by omega)) (a := 598) (i := 11) (show (-1 : Int) ≤ _ ∧ _ ≤ (400 : Int) from by omega)) (a := 598) (i := 12) (show (-1 : Int) ≤ _ ∧ _ ≤ (11 : Int) from by omega)) (RH.o (RH.o (RH.o hH_M (by decide) (by decide) (by decide)) (by decide) (by decide) (by decide)) (by decide) (by decide) (by decide)) (RF.o (RF.o (RF.o hS_M (by decide) (by decide)) (by decide) (by decide)) (by decide) (by decide))  ⟨((ju_i _ _ (zne (by decide))).trans ((ju_i _ _ (zne (by decide))).trans (ju_same _ _ _ _))), ((ju_i _ _ (zne (by decide))).trans (ju_same _ _ _ _)), (ju_same _ _ _ _)⟩ (fun a i f598 => ((ju_c _ _ f598).trans ((ju_c _ _ f598).trans ((ju_c _ _ f598).trans rfl)))) (fun i g10 g11 g12 => ((ju_i _ _ g12).trans ((ju_i _ _ g11).trans ((ju_i _ _ g10).trans rfl)))))
noncomputable def lsr (k : Int) : Int := if k = 2 ∨ k = 8 then 20 else if k = 3 then 24 else if k = 0 ∨ k = 1 ∨ k = 10 then 4 else 8
theorem r_least_x {A : Nat → Option (Nat × (Nat → Int32))} {Q : Option Value → jm → Prop} {M : jm} (hI_M : RI M) (hH_M : RH M) (hS_M : RF M) {k : Int} (h_k : 0 ≤ k ∧ k ≤ 11) (q : ∀ (r : Int), 4 ≤ r ∧ r ≤ 24 → r = lsr k → Q (some (.int (Int32.ofInt r))) M) : jc A 1 260 [.int (Int32.ofInt (k))] M Q := by
  rcases (show k = 0 ∨ k = 1 ∨ k = 2 ∨ k = 3 ∨ k = 4 ∨ k = 5 ∨ k = 6 ∨ k = 7 ∨ k = 8 ∨ k = 9 ∨ k = 10 ∨ k = 11 by omega) with rfl | rfl | rfl | rfl | rfl | rfl | rfl | rfl | rfl | rfl | rfl | rfl
  · refine jc_of (m := xm_260) rfl (Nat.le_of_ble_eq_true rfl) rfl ?_
    refine jr.iload_n rfl rfl ?_
    refine jr.iconst rfl ?_
    refine jr.icmp_eq rfl rfl (by first | exact rgl rfl | omega) (rgl rfl) (fun h => absurd h (by decide)) (fun _ => ?_)
    refine jr.iload_n rfl rfl ?_
    refine jr.bipush rfl (jbp _ (nlt rfl)) ?_
    refine jr.icmp_ne rfl rfl (by first | exact rgl rfl | omega) (rgl rfl) (fun _ => ?_) (fun h => absurd (by decide) h)
    refine jr.iload_n rfl rfl ?_
    refine jr.iconst rfl ?_
    refine jr.icmp_ne rfl rfl (by first | exact rgl rfl | omega) (rgl rfl) (fun _ => ?_) (fun h => absurd (by decide) h)
    refine jr.iload_n rfl rfl ?_
    refine jr.if_eq rfl rfl (by first | exact rgl rfl | omega) (fun _ => ?_) (fun h => absurd (by decide) h)
    refine jr.iconst rfl ?_
    refine jr.goto rfl rfl ?_
    exact jr.ireturn rfl rfl rfl (q _ (by first | exact rgq rfl | omega) (by decide))
  · refine jc_of (m := xm_260) rfl (Nat.le_of_ble_eq_true rfl) rfl ?_
    refine jr.iload_n rfl rfl ?_
    refine jr.iconst rfl ?_
    refine jr.icmp_eq rfl rfl (by first | exact rgl rfl | omega) (rgl rfl) (fun h => absurd h (by decide)) (fun _ => ?_)
    refine jr.iload_n rfl rfl ?_
    refine jr.bipush rfl (jbp _ (nlt rfl)) ?_
    refine jr.icmp_ne rfl rfl (by first | exact rgl rfl | omega) (rgl rfl) (fun _ => ?_) (fun h => absurd (by decide) h)
    refine jr.iload_n rfl rfl ?_
    refine jr.iconst rfl ?_
    refine jr.icmp_ne rfl rfl (by first | exact rgl rfl | omega) (rgl rfl) (fun _ => ?_) (fun h => absurd (by decide) h)
    refine jr.iload_n rfl rfl ?_
    refine jr.if_eq rfl rfl (by first | exact rgl rfl | omega) (fun h => absurd h (by decide)) (fun _ => ?_)
    refine jr.iload_n rfl rfl ?_
    refine jr.iconst rfl ?_
    refine jr.icmp_eq rfl rfl (by first | exact rgl rfl | omega) (rgl rfl) (fun _ => ?_) (fun h => absurd (by decide) h)
    refine jr.iconst rfl ?_
    refine jr.goto rfl rfl ?_
    exact jr.ireturn rfl rfl rfl (q _ (by first | exact rgq rfl | omega) (by decide))
  · refine jc_of (m := xm_260) rfl (Nat.le_of_ble_eq_true rfl) rfl ?_
    refine jr.iload_n rfl rfl ?_
    refine jr.iconst rfl ?_
    refine jr.icmp_eq rfl rfl (by first | exact rgl rfl | omega) (rgl rfl) (fun _ => ?_) (fun h => absurd (by decide) h)
    refine jr.bipush rfl (jbp _ (nlt rfl)) ?_
    refine jr.goto rfl rfl ?_
    exact jr.ireturn rfl rfl rfl (q _ (by first | exact rgq rfl | omega) (by decide))
  · refine jc_of (m := xm_260) rfl (Nat.le_of_ble_eq_true rfl) rfl ?_
    refine jr.iload_n rfl rfl ?_
    refine jr.iconst rfl ?_
    refine jr.icmp_eq rfl rfl (by first | exact rgl rfl | omega) (rgl rfl) (fun h => absurd h (by decide)) (fun _ => ?_)
    refine jr.iload_n rfl rfl ?_
    refine jr.bipush rfl (jbp _ (nlt rfl)) ?_
    refine jr.icmp_ne rfl rfl (by first | exact rgl rfl | omega) (rgl rfl) (fun _ => ?_) (fun h => absurd (by decide) h)
    refine jr.iload_n rfl rfl ?_
    refine jr.iconst rfl ?_
    refine jr.icmp_ne rfl rfl (by first | exact rgl rfl | omega) (rgl rfl) (fun h => absurd h (by decide)) (fun _ => ?_)
    refine jr.bipush rfl (jbp _ (nlt rfl)) ?_
    refine jr.goto rfl rfl ?_
    exact jr.ireturn rfl rfl rfl (q _ (by first | exact rgq rfl | omega) (by decide))
  · refine jc_of (m := xm_260) rfl (Nat.le_of_ble_eq_true rfl) rfl ?_
    refine jr.iload_n rfl rfl ?_
    refine jr.iconst rfl ?_
    refine jr.icmp_eq rfl rfl (by first | exact rgl rfl | omega) (rgl rfl) (fun h => absurd h (by decide)) (fun _ => ?_)
    refine jr.iload_n rfl rfl ?_
    refine jr.bipush rfl (jbp _ (nlt rfl)) ?_
    refine jr.icmp_ne rfl rfl (by first | exact rgl rfl | omega) (rgl rfl) (fun _ => ?_) (fun h => absurd (by decide) h)
    refine jr.iload_n rfl rfl ?_
    refine jr.iconst rfl ?_
    refine jr.icmp_ne rfl rfl (by first | exact rgl rfl | omega) (rgl rfl) (fun _ => ?_) (fun h => absurd (by decide) h)
    refine jr.iload_n rfl rfl ?_
    refine jr.if_eq rfl rfl (by first | exact rgl rfl | omega) (fun h => absurd h (by decide)) (fun _ => ?_)
    refine jr.iload_n rfl rfl ?_
    refine jr.iconst rfl ?_
    refine jr.icmp_eq rfl rfl (by first | exact rgl rfl | omega) (rgl rfl) (fun h => absurd h (by decide)) (fun _ => ?_)
    refine jr.iload_n rfl rfl ?_
    refine jr.bipush rfl (jbp _ (nlt rfl)) ?_
    refine jr.icmp_ne rfl rfl (by first | exact rgl rfl | omega) (rgl rfl) (fun _ => ?_) (fun h => absurd (by decide) h)
    refine jr.bipush rfl (jbp _ (nlt rfl)) ?_
    exact jr.ireturn rfl rfl rfl (q _ (by first | exact rgq rfl | omega) (by decide))
  · refine jc_of (m := xm_260) rfl (Nat.le_of_ble_eq_true rfl) rfl ?_
    refine jr.iload_n rfl rfl ?_
    refine jr.iconst rfl ?_
    refine jr.icmp_eq rfl rfl (by first | exact rgl rfl | omega) (rgl rfl) (fun h => absurd h (by decide)) (fun _ => ?_)
    refine jr.iload_n rfl rfl ?_
    refine jr.bipush rfl (jbp _ (nlt rfl)) ?_
    refine jr.icmp_ne rfl rfl (by first | exact rgl rfl | omega) (rgl rfl) (fun _ => ?_) (fun h => absurd (by decide) h)
    refine jr.iload_n rfl rfl ?_
    refine jr.iconst rfl ?_
    refine jr.icmp_ne rfl rfl (by first | exact rgl rfl | omega) (rgl rfl) (fun _ => ?_) (fun h => absurd (by decide) h)
    refine jr.iload_n rfl rfl ?_
    refine jr.if_eq rfl rfl (by first | exact rgl rfl | omega) (fun h => absurd h (by decide)) (fun _ => ?_)
    refine jr.iload_n rfl rfl ?_
    refine jr.iconst rfl ?_
    refine jr.icmp_eq rfl rfl (by first | exact rgl rfl | omega) (rgl rfl) (fun h => absurd h (by decide)) (fun _ => ?_)
    refine jr.iload_n rfl rfl ?_
    refine jr.bipush rfl (jbp _ (nlt rfl)) ?_
    refine jr.icmp_ne rfl rfl (by first | exact rgl rfl | omega) (rgl rfl) (fun _ => ?_) (fun h => absurd (by decide) h)
    refine jr.bipush rfl (jbp _ (nlt rfl)) ?_
    exact jr.ireturn rfl rfl rfl (q _ (by first | exact rgq rfl | omega) (by decide))
  · refine jc_of (m := xm_260) rfl (Nat.le_of_ble_eq_true rfl) rfl ?_
    refine jr.iload_n rfl rfl ?_
    refine jr.iconst rfl ?_
    refine jr.icmp_eq rfl rfl (by first | exact rgl rfl | omega) (rgl rfl) (fun h => absurd h (by decide)) (fun _ => ?_)
    refine jr.iload_n rfl rfl ?_
    refine jr.bipush rfl (jbp _ (nlt rfl)) ?_
    refine jr.icmp_ne rfl rfl (by first | exact rgl rfl | omega) (rgl rfl) (fun _ => ?_) (fun h => absurd (by decide) h)
    refine jr.iload_n rfl rfl ?_
    refine jr.iconst rfl ?_
    refine jr.icmp_ne rfl rfl (by first | exact rgl rfl | omega) (rgl rfl) (fun _ => ?_) (fun h => absurd (by decide) h)
    refine jr.iload_n rfl rfl ?_
    refine jr.if_eq rfl rfl (by first | exact rgl rfl | omega) (fun h => absurd h (by decide)) (fun _ => ?_)
    refine jr.iload_n rfl rfl ?_
    refine jr.iconst rfl ?_
    refine jr.icmp_eq rfl rfl (by first | exact rgl rfl | omega) (rgl rfl) (fun h => absurd h (by decide)) (fun _ => ?_)
    refine jr.iload_n rfl rfl ?_
    refine jr.bipush rfl (jbp _ (nlt rfl)) ?_
    refine jr.icmp_ne rfl rfl (by first | exact rgl rfl | omega) (rgl rfl) (fun _ => ?_) (fun h => absurd (by decide) h)
    refine jr.bipush rfl (jbp _ (nlt rfl)) ?_
    exact jr.ireturn rfl rfl rfl (q _ (by first | exact rgq rfl | omega) (by decide))
  · refine jc_of (m := xm_260) rfl (Nat.le_of_ble_eq_true rfl) rfl ?_
    refine jr.iload_n rfl rfl ?_
    refine jr.iconst rfl ?_
    refine jr.icmp_eq rfl rfl (by first | exact rgl rfl | omega) (rgl rfl) (fun h => absurd h (by decide)) (fun _ => ?_)
    refine jr.iload_n rfl rfl ?_
    refine jr.bipush rfl (jbp _ (nlt rfl)) ?_
    refine jr.icmp_ne rfl rfl (by first | exact rgl rfl | omega) (rgl rfl) (fun _ => ?_) (fun h => absurd (by decide) h)
    refine jr.iload_n rfl rfl ?_
    refine jr.iconst rfl ?_
    refine jr.icmp_ne rfl rfl (by first | exact rgl rfl | omega) (rgl rfl) (fun _ => ?_) (fun h => absurd (by decide) h)
    refine jr.iload_n rfl rfl ?_
    refine jr.if_eq rfl rfl (by first | exact rgl rfl | omega) (fun h => absurd h (by decide)) (fun _ => ?_)
    refine jr.iload_n rfl rfl ?_
    refine jr.iconst rfl ?_
    refine jr.icmp_eq rfl rfl (by first | exact rgl rfl | omega) (rgl rfl) (fun h => absurd h (by decide)) (fun _ => ?_)
    refine jr.iload_n rfl rfl ?_
    refine jr.bipush rfl (jbp _ (nlt rfl)) ?_
    refine jr.icmp_ne rfl rfl (by first | exact rgl rfl | omega) (rgl rfl) (fun _ => ?_) (fun h => absurd (by decide) h)
    refine jr.bipush rfl (jbp _ (nlt rfl)) ?_
    exact jr.ireturn rfl rfl rfl (q _ (by first | exact rgq rfl | omega) (by decide))
  · refine jc_of (m := xm_260) rfl (Nat.le_of_ble_eq_true rfl) rfl ?_
    refine jr.iload_n rfl rfl ?_
    refine jr.iconst rfl ?_
    refine jr.icmp_eq rfl rfl (by first | exact rgl rfl | omega) (rgl rfl) (fun h => absurd h (by decide)) (fun _ => ?_)
    refine jr.iload_n rfl rfl ?_
    refine jr.bipush rfl (jbp _ (nlt rfl)) ?_
    refine jr.icmp_ne rfl rfl (by first | exact rgl rfl | omega) (rgl rfl) (fun h => absurd h (by decide)) (fun _ => ?_)
    refine jr.bipush rfl (jbp _ (nlt rfl)) ?_
    refine jr.goto rfl rfl ?_
    exact jr.ireturn rfl rfl rfl (q _ (by first | exact rgq rfl | omega) (by decide))
  · refine jc_of (m := xm_260) rfl (Nat.le_of_ble_eq_true rfl) rfl ?_
    refine jr.iload_n rfl rfl ?_
    refine jr.iconst rfl ?_
    refine jr.icmp_eq rfl rfl (by first | exact rgl rfl | omega) (rgl rfl) (fun h => absurd h (by decide)) (fun _ => ?_)
    refine jr.iload_n rfl rfl ?_
    refine jr.bipush rfl (jbp _ (nlt rfl)) ?_
    refine jr.icmp_ne rfl rfl (by first | exact rgl rfl | omega) (rgl rfl) (fun _ => ?_) (fun h => absurd (by decide) h)
    refine jr.iload_n rfl rfl ?_
    refine jr.iconst rfl ?_
    refine jr.icmp_ne rfl rfl (by first | exact rgl rfl | omega) (rgl rfl) (fun _ => ?_) (fun h => absurd (by decide) h)
    refine jr.iload_n rfl rfl ?_
    refine jr.if_eq rfl rfl (by first | exact rgl rfl | omega) (fun h => absurd h (by decide)) (fun _ => ?_)
    refine jr.iload_n rfl rfl ?_
    refine jr.iconst rfl ?_
    refine jr.icmp_eq rfl rfl (by first | exact rgl rfl | omega) (rgl rfl) (fun h => absurd h (by decide)) (fun _ => ?_)
    refine jr.iload_n rfl rfl ?_
    refine jr.bipush rfl (jbp _ (nlt rfl)) ?_
    refine jr.icmp_ne rfl rfl (by first | exact rgl rfl | omega) (rgl rfl) (fun _ => ?_) (fun h => absurd (by decide) h)
    refine jr.bipush rfl (jbp _ (nlt rfl)) ?_
    exact jr.ireturn rfl rfl rfl (q _ (by first | exact rgq rfl | omega) (by decide))
  · refine jc_of (m := xm_260) rfl (Nat.le_of_ble_eq_true rfl) rfl ?_
    refine jr.iload_n rfl rfl ?_
    refine jr.iconst rfl ?_
    refine jr.icmp_eq rfl rfl (by first | exact rgl rfl | omega) (rgl rfl) (fun h => absurd h (by decide)) (fun _ => ?_)
    refine jr.iload_n rfl rfl ?_
    refine jr.bipush rfl (jbp _ (nlt rfl)) ?_
    refine jr.icmp_ne rfl rfl (by first | exact rgl rfl | omega) (rgl rfl) (fun _ => ?_) (fun h => absurd (by decide) h)
    refine jr.iload_n rfl rfl ?_
    refine jr.iconst rfl ?_
    refine jr.icmp_ne rfl rfl (by first | exact rgl rfl | omega) (rgl rfl) (fun _ => ?_) (fun h => absurd (by decide) h)
    refine jr.iload_n rfl rfl ?_
    refine jr.if_eq rfl rfl (by first | exact rgl rfl | omega) (fun h => absurd h (by decide)) (fun _ => ?_)
    refine jr.iload_n rfl rfl ?_
    refine jr.iconst rfl ?_
    refine jr.icmp_eq rfl rfl (by first | exact rgl rfl | omega) (rgl rfl) (fun h => absurd h (by decide)) (fun _ => ?_)
    refine jr.iload_n rfl rfl ?_
    refine jr.bipush rfl (jbp _ (nlt rfl)) ?_
    refine jr.icmp_ne rfl rfl (by first | exact rgl rfl | omega) (rgl rfl) (fun h => absurd h (by decide)) (fun _ => ?_)
    refine jr.iconst rfl ?_
    refine jr.goto rfl rfl ?_
    exact jr.ireturn rfl rfl rfl (q _ (by first | exact rgq rfl | omega) (by decide))
  · refine jc_of (m := xm_260) rfl (Nat.le_of_ble_eq_true rfl) rfl ?_
    refine jr.iload_n rfl rfl ?_
    refine jr.iconst rfl ?_
    refine jr.icmp_eq rfl rfl (by first | exact rgl rfl | omega) (rgl rfl) (fun h => absurd h (by decide)) (fun _ => ?_)
    refine jr.iload_n rfl rfl ?_
    refine jr.bipush rfl (jbp _ (nlt rfl)) ?_
    refine jr.icmp_ne rfl rfl (by first | exact rgl rfl | omega) (rgl rfl) (fun _ => ?_) (fun h => absurd (by decide) h)
    refine jr.iload_n rfl rfl ?_
    refine jr.iconst rfl ?_
    refine jr.icmp_ne rfl rfl (by first | exact rgl rfl | omega) (rgl rfl) (fun _ => ?_) (fun h => absurd (by decide) h)
    refine jr.iload_n rfl rfl ?_
    refine jr.if_eq rfl rfl (by first | exact rgl rfl | omega) (fun h => absurd h (by decide)) (fun _ => ?_)
    refine jr.iload_n rfl rfl ?_
    refine jr.iconst rfl ?_
    refine jr.icmp_eq rfl rfl (by first | exact rgl rfl | omega) (rgl rfl) (fun h => absurd h (by decide)) (fun _ => ?_)
    refine jr.iload_n rfl rfl ?_
    refine jr.bipush rfl (jbp _ (nlt rfl)) ?_
    refine jr.icmp_ne rfl rfl (by first | exact rgl rfl | omega) (rgl rfl) (fun _ => ?_) (fun h => absurd (by decide) h)
    refine jr.bipush rfl (jbp _ (nlt rfl)) ?_
    exact jr.ireturn rfl rfl rfl (q _ (by first | exact rgq rfl | omega) (by decide))
theorem AG.z {M : jm} {k r : Int} (h : ((M 598 6 = 12 ∧ r = 6) ∨ (M 598 6 ≠ 12 ∧ ((k = 4 ∧ bkf (M 603) (M 598 6) ≠ 3) ∨ ((k = 6 ∨ k = 5) ∧ bkf (M 603) (M 598 6) ≠ 3 ∧ bkf (M 603) (M 598 6) ≠ 4 ∧ bkf (M 603) (M 598 6) ≠ 5)) ∧ r = 3) ∨ (M 598 6 ≠ 12 ∧ ¬ ((k = 4 ∧ bkf (M 603) (M 598 6) ≠ 3) ∨ ((k = 6 ∨ k = 5) ∧ bkf (M 603) (M 598 6) ≠ 3 ∧ bkf (M 603) (M 598 6) ≠ 4 ∧ bkf (M 603) (M 598 6) ≠ 5)) ∧ r = 0))) (hr : r = 0) : M 598 6 ≠ 12 ∧ ¬ ((k = 4 ∧ bkf (M 603) (M 598 6) ≠ 3) ∨ ((k = 6 ∨ k = 5) ∧ bkf (M 603) (M 598 6) ≠ 3 ∧ bkf (M 603) (M 598 6) ≠ 4 ∧ bkf (M 603) (M 598 6) ≠ 5)) := by
  rcases h with h | h | h
  · exact absurd h.2 (by omega)
  · exact absurd h.2.2 (by omega)
  · exact ⟨h.1, h.2.1⟩
theorem AG.n {M : jm} {k r : Int} (h : ((M 598 6 = 12 ∧ r = 6) ∨ (M 598 6 ≠ 12 ∧ ((k = 4 ∧ bkf (M 603) (M 598 6) ≠ 3) ∨ ((k = 6 ∨ k = 5) ∧ bkf (M 603) (M 598 6) ≠ 3 ∧ bkf (M 603) (M 598 6) ≠ 4 ∧ bkf (M 603) (M 598 6) ≠ 5)) ∧ r = 3) ∨ (M 598 6 ≠ 12 ∧ ¬ ((k = 4 ∧ bkf (M 603) (M 598 6) ≠ 3) ∨ ((k = 6 ∨ k = 5) ∧ bkf (M 603) (M 598 6) ≠ 3 ∧ bkf (M 603) (M 598 6) ≠ 4 ∧ bkf (M 603) (M 598 6) ≠ 5)) ∧ r = 0))) (hr : r ≠ 0) : (M 598 6 = 12 ∧ r = 6) ∨ (M 598 6 ≠ 12 ∧ ((k = 4 ∧ bkf (M 603) (M 598 6) ≠ 3) ∨ ((k = 6 ∨ k = 5) ∧ bkf (M 603) (M 598 6) ≠ 3 ∧ bkf (M 603) (M 598 6) ≠ 4 ∧ bkf (M 603) (M 598 6) ≠ 5)) ∧ r = 3) := by
  rcases h with h | h | h
  · exact Or.inl h
  · exact Or.inr h
  · exact absurd h.2.2 hr
theorem r_against_x {A : Nat → Option (Nat × (Nat → Int32))} {Q : Option Value → jm → Prop} {M : jm} (hI_M : RI M) (hH_M : RH M) (hS_M : RF M) {k : Int} (h_k : 0 ≤ k ∧ k ≤ 11) (q : ∀ (r : Int), 0 ≤ r ∧ r ≤ 6 → (r = 0 → M 598 6 ≤ 11) → ((M 598 6 = 12 ∧ r = 6) ∨ (M 598 6 ≠ 12 ∧ ((k = 4 ∧ bkf (M 603) (M 598 6) ≠ 3) ∨ ((k = 6 ∨ k = 5) ∧ bkf (M 603) (M 598 6) ≠ 3 ∧ bkf (M 603) (M 598 6) ≠ 4 ∧ bkf (M 603) (M 598 6) ≠ 5)) ∧ r = 3) ∨ (M 598 6 ≠ 12 ∧ ¬ ((k = 4 ∧ bkf (M 603) (M 598 6) ≠ 3) ∨ ((k = 6 ∨ k = 5) ∧ bkf (M 603) (M 598 6) ≠ 3 ∧ bkf (M 603) (M 598 6) ≠ 4 ∧ bkf (M 603) (M 598 6) ≠ 5)) ∧ r = 0)) → Q (some (.int (Int32.ofInt r))) M) : jc A 1 261 [.ref (598), .int (Int32.ofInt (k))] M Q := by
  refine jc_of (m := xm_261) rfl (Nat.le_of_ble_eq_true rfl) rfl ?_
  refine jr.aload_n rfl rfl ?_
  obtain ⟨v1, e1⟩ : ∃ z, M 598 6 = z := ⟨_, rfl⟩
  have b1 : 0 ≤ v1 ∧ v1 ≤ 12 := by rw [← e1]; exact hI_M 598 6 (Nat.le_of_ble_eq_true rfl)
  refine jr.getf (i := 6) (x := v1) (v := .int (Int32.ofInt (v1))) rfl rfl (nlt rfl) rfl (nlt rfl) rfl rfl e1 rfl ?_
  refine jr.if_ne rfl rfl (by first | (refine rgb (by assumption) ?_; exact rfl) | omega) (fun h4 => ?_) (fun h4 => ?_)
  · have sx4 : (1 : Int) ≤ v1 := by omega
    clear h4
    refine jr.aload_n rfl rfl ?_
    refine jr.getf (i := 7) (v := .ref 603) rfl rfl (nlt rfl) rfl (nlt rfl) rfl rfl rfl rfl ?_
    refine jr.aload_n rfl rfl ?_
    refine jr.getf (i := 6) (x := v1) (v := .int (Int32.ofInt (v1))) rfl rfl (nlt rfl) rfl (nlt rfl) rfl rfl e1 rfl ?_
    refine jr.iconst rfl ?_
    refine jr.isub rfl ?_
    obtain ⟨v2, e2⟩ : ∃ z, M 603 (v1 - 1) = z := ⟨_, rfl⟩
    have b2 : 0 ≤ v2 ∧ v2 ≤ 11 := by rw [← e2]; exact (by have q := hI_M 603 (v1 - 1) (Nat.le_of_ble_eq_true rfl); rw [xri_row rfl rfl] at q; exact q)
    refine jr.iald (i := (v1 - 1)) (x := v2) rfl (nlt rfl) rfl (Nat.le_of_ble_eq_true rfl) (by omega) (by omega) e2 ?_
    refine jr.istore_n (ls' := [_, _, _]) rfl (nlt rfl) rfl ?_
    refine jr.aload_n rfl rfl ?_
    refine jr.getf (i := 6) (x := v1) (v := .int (Int32.ofInt (v1))) rfl rfl (nlt rfl) rfl (nlt rfl) rfl rfl e1 rfl ?_
    refine jr.bipush rfl (jbp _ (nlt rfl)) ?_
    refine jr.icmp_ne rfl rfl (by first | (refine rgb (by assumption) ?_; exact rfl) | omega) (rgl rfl) (fun h29 => ?_) (fun h29 => ?_)
    · have sx29 : v1 ≤ (11 : Int) := by omega
      clear h29
      refine jr.iload_n rfl rfl ?_
      refine jr.iconst rfl ?_
      refine jr.icmp_eq rfl rfl (by first | (refine rgb (by assumption) ?_; exact rfl) | omega) (rgl rfl) (fun h37 => ?_) (fun h37 => ?_)
      · refine jr.iconst rfl ?_
        refine jr.goto rfl rfl ?_
        refine jr.istore_n (ls' := [_, _, _, _]) rfl (nlt rfl) rfl ?_
        refine jr.iload_n rfl rfl ?_
        refine jr.iconst rfl ?_
        refine jr.icmp_ne rfl rfl (by first | (refine rgb (by assumption) ?_; exact rfl) | omega) (rgl rfl) (fun h58 => ?_) (fun h58 => ?_)
        · refine jr.iload_n rfl rfl ?_
          refine jr.bipush rfl (jbp _ (nlt rfl)) ?_
          refine jr.icmp_eq rfl rfl (by first | (refine rgb (by assumption) ?_; exact rfl) | omega) (rgl rfl) (fun h69 => ?_) (fun h69 => ?_)
          · refine jr.iload_n rfl rfl ?_
            refine jr.if_ne rfl rfl (by first | exact rgl rfl | omega) (fun _ => ?_) (fun h => absurd (by decide) h)
            refine jr.iconst rfl ?_
            exact jr.ireturn rfl rfl rfl (q _ (by first | exact rgq rfl | omega) (by omega) (by have hbk : bkf (M 603) (M 598 6) = v2 := (by unfold bkf; rw [e1]; split <;> omega); rw [hbk]; omega))
          · refine jr.iload_n rfl rfl ?_
            refine jr.iconst rfl ?_
            refine jr.icmp_ne rfl rfl (by first | (refine rgb (by assumption) ?_; exact rfl) | omega) (rgl rfl) (fun h74 => ?_) (fun h74 => ?_)
            · refine jr.iconst rfl ?_
              exact jr.ireturn rfl rfl rfl (q _ (by first | exact rgq rfl | omega) (by omega) (by have hbk : bkf (M 603) (M 598 6) = v2 := (by unfold bkf; rw [e1]; split <;> omega); rw [hbk]; omega))
            · refine jr.iload_n rfl rfl ?_
              refine jr.if_ne rfl rfl (by first | exact rgl rfl | omega) (fun _ => ?_) (fun h => absurd (by decide) h)
              refine jr.iconst rfl ?_
              exact jr.ireturn rfl rfl rfl (q _ (by first | exact rgq rfl | omega) (by omega) (by have hbk : bkf (M 603) (M 598 6) = v2 := (by unfold bkf; rw [e1]; split <;> omega); rw [hbk]; omega))
        · refine jr.iload_n rfl rfl ?_
          refine jr.iconst rfl ?_
          refine jr.icmp_ne rfl rfl (by first | (refine rgb (by assumption) ?_; exact rfl) | omega) (rgl rfl) (fun h63 => ?_) (fun h63 => ?_)
          · exact absurd h63 (by omega)
          · refine jr.iload_n rfl rfl ?_
            refine jr.bipush rfl (jbp _ (nlt rfl)) ?_
            refine jr.icmp_eq rfl rfl (by first | (refine rgb (by assumption) ?_; exact rfl) | omega) (rgl rfl) (fun h69 => ?_) (fun h69 => ?_)
            · exact absurd h69 (by omega)
            · refine jr.iload_n rfl rfl ?_
              refine jr.iconst rfl ?_
              refine jr.icmp_ne rfl rfl (by first | (refine rgb (by assumption) ?_; exact rfl) | omega) (rgl rfl) (fun h74 => ?_) (fun h74 => ?_)
              · refine jr.iconst rfl ?_
                exact jr.ireturn rfl rfl rfl (q _ (by first | exact rgq rfl | omega) (by omega) (by have hbk : bkf (M 603) (M 598 6) = v2 := (by unfold bkf; rw [e1]; split <;> omega); rw [hbk]; omega))
              · exact absurd (by omega) h74
      · refine jr.iload_n rfl rfl ?_
        refine jr.iconst rfl ?_
        refine jr.icmp_eq rfl rfl (by first | (refine rgb (by assumption) ?_; exact rfl) | omega) (rgl rfl) (fun h42 => ?_) (fun h42 => ?_)
        · refine jr.iconst rfl ?_
          refine jr.goto rfl rfl ?_
          refine jr.istore_n (ls' := [_, _, _, _]) rfl (nlt rfl) rfl ?_
          refine jr.iload_n rfl rfl ?_
          refine jr.iconst rfl ?_
          refine jr.icmp_ne rfl rfl (by first | (refine rgb (by assumption) ?_; exact rfl) | omega) (rgl rfl) (fun h58 => ?_) (fun h58 => ?_)
          · refine jr.iload_n rfl rfl ?_
            refine jr.bipush rfl (jbp _ (nlt rfl)) ?_
            refine jr.icmp_eq rfl rfl (by first | (refine rgb (by assumption) ?_; exact rfl) | omega) (rgl rfl) (fun h69 => ?_) (fun h69 => ?_)
            · refine jr.iload_n rfl rfl ?_
              refine jr.if_ne rfl rfl (by first | exact rgl rfl | omega) (fun _ => ?_) (fun h => absurd (by decide) h)
              refine jr.iconst rfl ?_
              exact jr.ireturn rfl rfl rfl (q _ (by first | exact rgq rfl | omega) (by omega) (by have hbk : bkf (M 603) (M 598 6) = v2 := (by unfold bkf; rw [e1]; split <;> omega); rw [hbk]; omega))
            · refine jr.iload_n rfl rfl ?_
              refine jr.iconst rfl ?_
              refine jr.icmp_ne rfl rfl (by first | (refine rgb (by assumption) ?_; exact rfl) | omega) (rgl rfl) (fun h74 => ?_) (fun h74 => ?_)
              · refine jr.iconst rfl ?_
                exact jr.ireturn rfl rfl rfl (q _ (by first | exact rgq rfl | omega) (by omega) (by have hbk : bkf (M 603) (M 598 6) = v2 := (by unfold bkf; rw [e1]; split <;> omega); rw [hbk]; omega))
              · refine jr.iload_n rfl rfl ?_
                refine jr.if_ne rfl rfl (by first | exact rgl rfl | omega) (fun _ => ?_) (fun h => absurd (by decide) h)
                refine jr.iconst rfl ?_
                exact jr.ireturn rfl rfl rfl (q _ (by first | exact rgq rfl | omega) (by omega) (by have hbk : bkf (M 603) (M 598 6) = v2 := (by unfold bkf; rw [e1]; split <;> omega); rw [hbk]; omega))
          · refine jr.iload_n rfl rfl ?_
            refine jr.iconst rfl ?_
            refine jr.icmp_ne rfl rfl (by first | (refine rgb (by assumption) ?_; exact rfl) | omega) (rgl rfl) (fun h63 => ?_) (fun h63 => ?_)
            · refine jr.iconst rfl ?_
              refine jr.goto rfl rfl ?_
              exact jr.ireturn rfl rfl rfl (q _ (by first | exact rgq rfl | omega) (by omega) (by have hbk : bkf (M 603) (M 598 6) = v2 := (by unfold bkf; rw [e1]; split <;> omega); rw [hbk]; omega))
            · exact absurd (by omega) h63
        · refine jr.iload_n rfl rfl ?_
          refine jr.iconst rfl ?_
          refine jr.icmp_ne rfl rfl (by first | (refine rgb (by assumption) ?_; exact rfl) | omega) (rgl rfl) (fun h47 => ?_) (fun h47 => ?_)
          · refine jr.iconst rfl ?_
            refine jr.istore_n (ls' := [_, _, _, _]) rfl (nlt rfl) rfl ?_
            refine jr.iload_n rfl rfl ?_
            refine jr.iconst rfl ?_
            refine jr.icmp_ne rfl rfl (by first | (refine rgb (by assumption) ?_; exact rfl) | omega) (rgl rfl) (fun h58 => ?_) (fun h58 => ?_)
            · refine jr.iload_n rfl rfl ?_
              refine jr.bipush rfl (jbp _ (nlt rfl)) ?_
              refine jr.icmp_eq rfl rfl (by first | (refine rgb (by assumption) ?_; exact rfl) | omega) (rgl rfl) (fun h69 => ?_) (fun h69 => ?_)
              · refine jr.iload_n rfl rfl ?_
                refine jr.if_ne rfl rfl (by first | exact rgl rfl | omega) (fun h => absurd h (by decide)) (fun _ => ?_)
                refine jr.iconst rfl ?_
                refine jr.goto rfl rfl ?_
                exact jr.ireturn rfl rfl rfl (q _ (by first | exact rgq rfl | omega) (by omega) (by have hbk : bkf (M 603) (M 598 6) = v2 := (by unfold bkf; rw [e1]; split <;> omega); rw [hbk]; omega))
              · refine jr.iload_n rfl rfl ?_
                refine jr.iconst rfl ?_
                refine jr.icmp_ne rfl rfl (by first | (refine rgb (by assumption) ?_; exact rfl) | omega) (rgl rfl) (fun h74 => ?_) (fun h74 => ?_)
                · refine jr.iconst rfl ?_
                  exact jr.ireturn rfl rfl rfl (q _ (by first | exact rgq rfl | omega) (by omega) (by have hbk : bkf (M 603) (M 598 6) = v2 := (by unfold bkf; rw [e1]; split <;> omega); rw [hbk]; omega))
                · refine jr.iload_n rfl rfl ?_
                  refine jr.if_ne rfl rfl (by first | exact rgl rfl | omega) (fun h => absurd h (by decide)) (fun _ => ?_)
                  refine jr.iconst rfl ?_
                  refine jr.goto rfl rfl ?_
                  exact jr.ireturn rfl rfl rfl (q _ (by first | exact rgq rfl | omega) (by omega) (by have hbk : bkf (M 603) (M 598 6) = v2 := (by unfold bkf; rw [e1]; split <;> omega); rw [hbk]; omega))
            · refine jr.iload_n rfl rfl ?_
              refine jr.iconst rfl ?_
              refine jr.icmp_ne rfl rfl (by first | (refine rgb (by assumption) ?_; exact rfl) | omega) (rgl rfl) (fun h63 => ?_) (fun h63 => ?_)
              · refine jr.iconst rfl ?_
                refine jr.goto rfl rfl ?_
                exact jr.ireturn rfl rfl rfl (q _ (by first | exact rgq rfl | omega) (by omega) (by have hbk : bkf (M 603) (M 598 6) = v2 := (by unfold bkf; rw [e1]; split <;> omega); rw [hbk]; omega))
              · exact absurd h37 h63
          · refine jr.iconst rfl ?_
            refine jr.goto rfl rfl ?_
            refine jr.istore_n (ls' := [_, _, _, _]) rfl (nlt rfl) rfl ?_
            refine jr.iload_n rfl rfl ?_
            refine jr.iconst rfl ?_
            refine jr.icmp_ne rfl rfl (by first | (refine rgb (by assumption) ?_; exact rfl) | omega) (rgl rfl) (fun h58 => ?_) (fun h58 => ?_)
            · refine jr.iload_n rfl rfl ?_
              refine jr.bipush rfl (jbp _ (nlt rfl)) ?_
              refine jr.icmp_eq rfl rfl (by first | (refine rgb (by assumption) ?_; exact rfl) | omega) (rgl rfl) (fun h69 => ?_) (fun h69 => ?_)
              · refine jr.iload_n rfl rfl ?_
                refine jr.if_ne rfl rfl (by first | exact rgl rfl | omega) (fun _ => ?_) (fun h => absurd (by decide) h)
                refine jr.iconst rfl ?_
                exact jr.ireturn rfl rfl rfl (q _ (by first | exact rgq rfl | omega) (by omega) (by have hbk : bkf (M 603) (M 598 6) = v2 := (by unfold bkf; rw [e1]; split <;> omega); rw [hbk]; omega))
              · refine jr.iload_n rfl rfl ?_
                refine jr.iconst rfl ?_
                refine jr.icmp_ne rfl rfl (by first | (refine rgb (by assumption) ?_; exact rfl) | omega) (rgl rfl) (fun h74 => ?_) (fun h74 => ?_)
                · refine jr.iconst rfl ?_
                  exact jr.ireturn rfl rfl rfl (q _ (by first | exact rgq rfl | omega) (by omega) (by have hbk : bkf (M 603) (M 598 6) = v2 := (by unfold bkf; rw [e1]; split <;> omega); rw [hbk]; omega))
                · refine jr.iload_n rfl rfl ?_
                  refine jr.if_ne rfl rfl (by first | exact rgl rfl | omega) (fun _ => ?_) (fun h => absurd (by decide) h)
                  refine jr.iconst rfl ?_
                  exact jr.ireturn rfl rfl rfl (q _ (by first | exact rgq rfl | omega) (by omega) (by have hbk : bkf (M 603) (M 598 6) = v2 := (by unfold bkf; rw [e1]; split <;> omega); rw [hbk]; omega))
            · refine jr.iload_n rfl rfl ?_
              refine jr.iconst rfl ?_
              refine jr.icmp_ne rfl rfl (by first | (refine rgb (by assumption) ?_; exact rfl) | omega) (rgl rfl) (fun h63 => ?_) (fun h63 => ?_)
              · refine jr.iconst rfl ?_
                refine jr.goto rfl rfl ?_
                exact jr.ireturn rfl rfl rfl (q _ (by first | exact rgq rfl | omega) (by omega) (by have hbk : bkf (M 603) (M 598 6) = v2 := (by unfold bkf; rw [e1]; split <;> omega); rw [hbk]; omega))
              · exact absurd (by omega) h63
    · refine jr.bipush rfl (jbp _ (nlt rfl)) ?_
      exact jr.ireturn rfl rfl rfl (q _ (by first | exact rgq rfl | omega) (by omega) (by have hbk : bkf (M 603) (M 598 6) = v2 := (by unfold bkf; rw [e1]; split <;> omega); rw [hbk]; omega))
  · refine jr.iconst rfl ?_
    refine jr.goto rfl rfl ?_
    refine jr.istore_n (ls' := [_, _, _]) rfl (nlt rfl) rfl ?_
    refine jr.aload_n rfl rfl ?_
    refine jr.getf (i := 6) (x := v1) (v := .int (Int32.ofInt (v1))) rfl rfl (nlt rfl) rfl (nlt rfl) rfl rfl e1 rfl ?_
    refine jr.bipush rfl (jbp _ (nlt rfl)) ?_
    refine jr.icmp_ne rfl rfl (by first | (refine rgb (by assumption) ?_; exact rfl) | omega) (rgl rfl) (fun h29 => ?_) (fun h29 => ?_)
    · refine jr.iload_n rfl rfl ?_
      refine jr.iconst rfl ?_
      refine jr.icmp_eq rfl rfl (by first | exact rgl rfl | omega) (rgl rfl) (fun h => absurd h (by decide)) (fun _ => ?_)
      refine jr.iload_n rfl rfl ?_
      refine jr.iconst rfl ?_
      refine jr.icmp_eq rfl rfl (by first | exact rgl rfl | omega) (rgl rfl) (fun h => absurd h (by decide)) (fun _ => ?_)
      refine jr.iload_n rfl rfl ?_
      refine jr.iconst rfl ?_
      refine jr.icmp_ne rfl rfl (by first | exact rgl rfl | omega) (rgl rfl) (fun _ => ?_) (fun h => absurd (by decide) h)
      refine jr.iconst rfl ?_
      refine jr.istore_n (ls' := [_, _, _, _]) rfl (nlt rfl) rfl ?_
      refine jr.iload_n rfl rfl ?_
      refine jr.iconst rfl ?_
      refine jr.icmp_ne rfl rfl (by first | (refine rgb (by assumption) ?_; exact rfl) | omega) (rgl rfl) (fun h58 => ?_) (fun h58 => ?_)
      · refine jr.iload_n rfl rfl ?_
        refine jr.bipush rfl (jbp _ (nlt rfl)) ?_
        refine jr.icmp_eq rfl rfl (by first | (refine rgb (by assumption) ?_; exact rfl) | omega) (rgl rfl) (fun h69 => ?_) (fun h69 => ?_)
        · refine jr.iload_n rfl rfl ?_
          refine jr.if_ne rfl rfl (by first | exact rgl rfl | omega) (fun h => absurd h (by decide)) (fun _ => ?_)
          refine jr.iconst rfl ?_
          refine jr.goto rfl rfl ?_
          exact jr.ireturn rfl rfl rfl (q _ (by first | exact rgq rfl | omega) (by omega) (by have hbk : bkf (M 603) (M 598 6) = -1 := (by unfold bkf; rw [e1]; split <;> omega); rw [hbk]; omega))
        · refine jr.iload_n rfl rfl ?_
          refine jr.iconst rfl ?_
          refine jr.icmp_ne rfl rfl (by first | (refine rgb (by assumption) ?_; exact rfl) | omega) (rgl rfl) (fun h74 => ?_) (fun h74 => ?_)
          · refine jr.iconst rfl ?_
            exact jr.ireturn rfl rfl rfl (q _ (by first | exact rgq rfl | omega) (by omega) (by have hbk : bkf (M 603) (M 598 6) = -1 := (by unfold bkf; rw [e1]; split <;> omega); rw [hbk]; omega))
          · refine jr.iload_n rfl rfl ?_
            refine jr.if_ne rfl rfl (by first | exact rgl rfl | omega) (fun h => absurd h (by decide)) (fun _ => ?_)
            refine jr.iconst rfl ?_
            refine jr.goto rfl rfl ?_
            exact jr.ireturn rfl rfl rfl (q _ (by first | exact rgq rfl | omega) (by omega) (by have hbk : bkf (M 603) (M 598 6) = -1 := (by unfold bkf; rw [e1]; split <;> omega); rw [hbk]; omega))
      · refine jr.iload_n rfl rfl ?_
        refine jr.iconst rfl ?_
        refine jr.icmp_ne rfl rfl (by first | exact rgl rfl | omega) (rgl rfl) (fun _ => ?_) (fun h => absurd (by decide) h)
        refine jr.iconst rfl ?_
        refine jr.goto rfl rfl ?_
        exact jr.ireturn rfl rfl rfl (q _ (by first | exact rgq rfl | omega) (by omega) (by have hbk : bkf (M 603) (M 598 6) = -1 := (by unfold bkf; rw [e1]; split <;> omega); rw [hbk]; omega))
    · exact absurd (by omega) h29
theorem r_byKind_x {A : Nat → Option (Nat × (Nat → Int32))} {Q : Option Value → jm → Prop} {M : jm} (hI_M : RI M) (hH_M : RH M) (hS_M : RF M) {w : Int} (h_w : (-2147483648) ≤ w ∧ w ≤ 2147483647) (q : ∀ (r : Int), 0 ≤ r ∧ r ≤ 11 → r = byK w → Q (some (.int (Int32.ofInt r))) M) : jc A 1 263 [.int (Int32.ofInt (w))] M Q := by
  refine jc_of (m := xm_263) rfl (Nat.le_of_ble_eq_true rfl) rfl ?_
  refine jr.iload_n rfl rfl ?_
  refine jr.iconst rfl ?_
  refine jr.icmp_ne rfl rfl (by first | (refine rgb (by assumption) ?_; exact rfl) | omega) (rgl rfl) (fun h2 => ?_) (fun h2 => ?_)
  · refine jr.iload_n rfl rfl ?_
    refine jr.bipush rfl (jbp _ (nlt rfl)) ?_
    refine jr.icmp_ne rfl rfl (by first | (refine rgb (by assumption) ?_; exact rfl) | omega) (rgl rfl) (fun h12 => ?_) (fun h12 => ?_)
    · refine jr.iload_n rfl rfl ?_
      refine jr.bipush rfl (jbp _ (nlt rfl)) ?_
      refine jr.icmp_ne rfl rfl (by first | (refine rgb (by assumption) ?_; exact rfl) | omega) (rgl rfl) (fun h22 => ?_) (fun h22 => ?_)
      · refine jr.bipush rfl (jbp _ (nlt rfl)) ?_
        exact jr.ireturn rfl rfl rfl (q _ (by first | exact rgq rfl | omega) (by unfold byK; (repeat' split) <;> omega))
      · refine jr.iconst rfl ?_
        refine jr.goto rfl rfl ?_
        exact jr.ireturn rfl rfl rfl (q _ (by first | exact rgq rfl | omega) (by unfold byK; (repeat' split) <;> omega))
    · refine jr.iconst rfl ?_
      refine jr.goto rfl rfl ?_
      exact jr.ireturn rfl rfl rfl (q _ (by first | exact rgq rfl | omega) (by unfold byK; (repeat' split) <;> omega))
  · refine jr.iconst rfl ?_
    refine jr.goto rfl rfl ?_
    exact jr.ireturn rfl rfl rfl (q _ (by first | exact rgq rfl | omega) (by unfold byK; (repeat' split) <;> omega))
theorem r_byNext_x {A : Nat → Option (Nat × (Nat → Int32))} {Q : Option Value → jm → Prop} {M : jm} (hI_M : RI M) (hH_M : RH M) (hS_M : RF M) {w : Int} (h_w : (-2147483648) ≤ w ∧ w ≤ 2147483647) {b : Int} (h_b : 0 ≤ b ∧ b ≤ 1) (q : ∀ (r : Int), 0 ≤ r ∧ r ≤ 11 → r = byN w b → Q (some (.int (Int32.ofInt r))) M) : jc A 1 264 [.int (Int32.ofInt (w)), .int (Int32.ofInt (b))] M Q := by
  refine jc_of (m := xm_264) rfl (Nat.le_of_ble_eq_true rfl) rfl ?_
  refine jr.iload_n rfl rfl ?_
  rcases (show w = 1 ∨ w = 4 ∨ w = 6 ∨ w = 17 ∨ w = 41 ∨ w = 47 ∨ (w ≠ 1 ∧ w ≠ 4 ∧ w ≠ 6 ∧ w ≠ 17 ∧ w ≠ 41 ∧ w ≠ 47) by omega) with h1 | h1 | h1 | h1 | h1 | h1 | h1
  · refine jr.lsw_k 1 rfl h1 rfl ?_
    refine jr.bipush rfl (jbp _ (nlt rfl)) ?_
    exact jr.ireturn rfl rfl rfl (q _ (by first | exact rgq rfl | omega) (byN_k.1 h1).symm)
  · refine jr.lsw_k 4 rfl h1 rfl ?_
    refine jr.iconst rfl ?_
    exact jr.ireturn rfl rfl rfl (q _ (by first | exact rgq rfl | omega) (byN_k.2.2.2.2.1 h1).symm)
  · refine jr.lsw_k 6 rfl h1 rfl ?_
    refine jr.bipush rfl (jbp _ (nlt rfl)) ?_
    exact jr.ireturn rfl rfl rfl (q _ (by first | exact rgq rfl | omega) (byN_k.2.1 h1).symm)
  · refine jr.lsw_k 17 rfl h1 rfl ?_
    refine jr.bipush rfl (jbp _ (nlt rfl)) ?_
    exact jr.ireturn rfl rfl rfl (q _ (by first | exact rgq rfl | omega) (byN_k.2.2.1 h1).symm)
  · refine jr.lsw_k 41 rfl h1 rfl ?_
    refine jr.iconst rfl ?_
    exact jr.ireturn rfl rfl rfl (q _ (by first | exact rgq rfl | omega) (byN_k.2.2.2.2.2 h1).symm)
  · refine jr.lsw_k 47 rfl h1 rfl ?_
    refine jr.bipush rfl (jbp _ (nlt rfl)) ?_
    exact jr.ireturn rfl rfl rfl (q _ (by first | exact rgq rfl | omega) (byN_k.2.2.2.1 h1).symm)
  · refine jr.lsw_d rfl (by omega) rfl (fun q hq => by simp only [List.mem_cons, List.not_mem_nil, or_false] at hq; rcases hq with rfl | rfl | rfl | rfl | rfl | rfl <;> (simp only; omega)) rfl ?_
    refine jr.iload_n rfl rfl ?_
    refine jr.if_ne rfl rfl (by first | (refine rgb (by assumption) ?_; exact rfl) | omega) (fun h77 => ?_) (fun h77 => ?_)
    · have sx77 : (1 : Int) ≤ b := by omega
      clear h77
      refine jr.iload_n rfl rfl ?_
      refine jr.if_ne rfl rfl (by first | (refine rgb (by assumption) ?_; exact rfl) | omega) (fun h86 => ?_) (fun h86 => ?_)
      · refine jr.iload_n rfl rfl ?_
        refine jr.bipush rfl (jbp _ (nlt rfl)) ?_
        refine jr.icmp_ne rfl rfl (by first | (refine rgb (by assumption) ?_; exact rfl) | omega) (rgl rfl) (fun h96 => ?_) (fun h96 => ?_)
        · refine jr.iload_n rfl rfl ?_
          refine jr.bipush rfl (jbp _ (nlt rfl)) ?_
          refine jr.icmp_ne rfl rfl (by first | (refine rgb (by assumption) ?_; exact rfl) | omega) (rgl rfl) (fun h106 => ?_) (fun h106 => ?_)
          · refine jr.bipush rfl (jbp _ (nlt rfl)) ?_
            exact jr.ireturn rfl rfl rfl (q _ (by first | exact rgq rfl | omega) ((byN_e h1.1 h1.2.2.1 h1.2.2.2.1 h1.2.2.2.2.2 h1.2.1 h1.2.2.2.2.1).2.2.2.2 (by omega) (by omega) (by omega)).symm)
          · refine jr.bipush rfl (jbp _ (nlt rfl)) ?_
            refine jr.goto rfl rfl ?_
            exact jr.ireturn rfl rfl rfl (q _ (by first | exact rgq rfl | omega) ((byN_e h1.1 h1.2.2.1 h1.2.2.2.1 h1.2.2.2.2.2 h1.2.1 h1.2.2.2.2.1).2.2.2.1 (by omega) (by omega)).symm)
        · refine jr.iconst rfl ?_
          refine jr.goto rfl rfl ?_
          exact jr.ireturn rfl rfl rfl (q _ (by first | exact rgq rfl | omega) ((byN_e h1.1 h1.2.2.1 h1.2.2.2.1 h1.2.2.2.2.2 h1.2.1 h1.2.2.2.2.1).2.2.1 (by omega) (by omega)).symm)
      · refine jr.iconst rfl ?_
        refine jr.goto rfl rfl ?_
        exact jr.ireturn rfl rfl rfl (q _ (by first | exact rgq rfl | omega) ((byN_e h1.1 h1.2.2.1 h1.2.2.2.1 h1.2.2.2.2.2 h1.2.1 h1.2.2.2.2.1).2.1 (by omega) (by omega)).symm)
    · refine jr.bipush rfl (jbp _ (nlt rfl)) ?_
      refine jr.goto rfl rfl ?_
      exact jr.ireturn rfl rfl rfl (q _ (by first | exact rgq rfl | omega) ((byN_e h1.1 h1.2.2.1 h1.2.2.2.1 h1.2.2.2.2.2 h1.2.1 h1.2.2.2.2.1).1 (by omega)).symm)
theorem msF (f : Int → Int) (n k a : Int) : hsF f n 0 3 k a = if (k = 2 ∨ k = 3) ∧ n < a + 1 then 1 else if (k = 2 ∧ hb f n a / 16 ≠ 4) ∨ (k = 3 ∧ hb f n a / 16 ≠ 6) then 3 else if n < a + hls k then 1 else if (k = 2 ∨ k = 8) ∧ hsZ f n k a < 20 then 4 else if n < a + hsZ f n k a then 1 else if (k = 2 ∧ tw f (a + 2) ≠ n - a) ∨ (k = 3 ∧ tw f (a + 2) ≠ n - a - 24) ∨ (k = 9 ∧ tw f (a + 4) ≠ n - a) then 5 else 0 := by
  unfold hsF
  rw [if_neg (show ¬ (12 : Int) ≤ 0 by decide), if_neg (show ¬ ((k = 4 ∧ (3 : Int) ≠ 3) ∨ ((k = 6 ∨ k = 5) ∧ (3 : Int) ≠ 3 ∧ (3 : Int) ≠ 4 ∧ (3 : Int) ≠ 5)) by omega)]
theorem msW (f : Int → Int) (n k a : Int) : hsW f n 0 3 k a = if (k = 2 ∨ k = 3) ∧ n < a + 1 then n else if (k = 2 ∧ hb f n a / 16 ≠ 4) ∨ (k = 3 ∧ hb f n a / 16 ≠ 6) then a else if n < a + hls k then n else if (k = 2 ∨ k = 8) ∧ hsZ f n k a < 20 then (if k = 2 then a else a + 12) else if n < a + hsZ f n k a then n else (if k = 9 then a + 4 else a + 2) := by
  unfold hsW
  rw [if_neg (show ¬ (12 : Int) ≤ 0 by decide), if_neg (show ¬ ((k = 4 ∧ (3 : Int) ≠ 3) ∨ ((k = 6 ∨ k = 5) ∧ (3 : Int) ≠ 3 ∧ (3 : Int) ≠ 4 ∧ (3 : Int) ≠ 5)) by omega)]
theorem r_measure_x {A : Nat → Option (Nat × (Nat → Int32))} {Q : Option Value → jm → Prop} {M : jm} (hI_M : RI M) (hH_M : RH M) (hS_M : RF M) {x : Int} (h_x : 0 ≤ x ∧ x ≤ 23) {k : Int} (h_k : 0 ≤ k ∧ k ≤ 10) {a : Int} (h_a : 0 ≤ a ∧ a ≤ 400) (p0 : M 600 x ≠ -1) (q : ∀ (r : Int) (M' : jm), RI M' → RH M' → RF M' → (-1) ≤ r ∧ r ≤ 400 → ((r = -1 ∨ (lst k ≤ r ∧ a + r ≤ M 600 x)) ∧ MS6 M M' (rf M x) (M 600 x) k a r) → (k = 2 → (r = -1 ∨ r = 4 * (M 601 (400 * x + a) % 16))) → (∀ (a : Nat) (i : Int), a ≠ 598 → M' a i = M a i) → (∀ (i : Int), i ≠ 10 → i ≠ 11 → i ≠ 12 → M' 598 i = M 598 i) → Q (some (.int (Int32.ofInt r))) M') : jc A 3 262 [.ref (598), .int (Int32.ofInt (x)), .int (Int32.ofInt (k)), .int (Int32.ofInt (a))] M Q := by
  rcases (show k = 0 ∨ k = 1 ∨ k = 2 ∨ k = 3 ∨ k = 4 ∨ k = 5 ∨ k = 6 ∨ k = 7 ∨ k = 8 ∨ k = 9 ∨ k = 10 by omega) with rfl | rfl | rfl | rfl | rfl | rfl | rfl | rfl | rfl | rfl | rfl
  · have lk : lst 0 = 4 := rfl
    have lh : hls 0 = 4 := rfl
    have lr : lsr 0 = 4 := rfl
    refine jc_of (m := xm_262) rfl (Nat.le_of_ble_eq_true rfl) rfl ?_
    refine jr.aload_n rfl rfl ?_
    refine jr.getf (i := 3) (v := .ref 600) rfl rfl (nlt rfl) rfl (nlt rfl) rfl rfl rfl rfl ?_
    refine jr.iload_n rfl rfl ?_
    obtain ⟨v1, e1⟩ : ∃ z, M 600 x = z := ⟨_, rfl⟩
    have b1 : (-1) ≤ v1 ∧ v1 ≤ 400 := by rw [← e1]; exact (by have q := hI_M 600 x (Nat.le_of_ble_eq_true rfl); rw [xri_row rfl rfl] at q; exact q)
    refine jr.iald (i := x) (x := v1) rfl (nlt rfl) rfl (Nat.le_of_ble_eq_true rfl) (by omega) (by omega) e1 ?_
    refine jr.istore (ls' := [_, _, _, _, _]) rfl (nlt rfl) rfl ?_
    refine jr.iload_n rfl rfl ?_
    refine jr.iload rfl rfl ?_
    refine jr.icmp_lt rfl rfl (by first | (refine rgb (by assumption) ?_; exact rfl) | omega) (by first | (refine rgb (by assumption) ?_; exact rfl) | omega) (fun h11 => ?_) (fun h11 => ?_)
    · refine jr.iload_n rfl rfl ?_
      refine jr.iconst rfl ?_
      refine jr.icmp_ne rfl rfl (by first | exact rgl rfl | omega) (rgl rfl) (fun _ => ?_) (fun h => absurd (by decide) h)
      refine jr.iload_n rfl rfl ?_
      refine jr.iconst rfl ?_
      refine jr.icmp_ne rfl rfl (by first | exact rgl rfl | omega) (rgl rfl) (fun _ => ?_) (fun h => absurd (by decide) h)
      refine jr.iload_n rfl rfl ?_
      refine jr_s rfl rfl (Or.inl rfl) ⟨Nat.le_of_ble_eq_true rfl, Nat.le_of_ble_eq_true rfl⟩ rfl rfl (jc.deep (r_least_x hI_M hH_M hS_M  (by omega)  (fun r2 z2 w2_0 => ?_)) (Nat.le_of_ble_eq_true rfl))
      refine jr.istore (ls' := [_, _, _, _, _, _]) rfl (nlt rfl) rfl ?_
      refine jr.iload_n rfl rfl ?_
      refine jr.iconst rfl ?_
      refine jr.icmp_eq rfl rfl (by first | exact rgl rfl | omega) (rgl rfl) (fun h => absurd h (by decide)) (fun _ => ?_)
      refine jr.iload_n rfl rfl ?_
      refine jr.iconst rfl ?_
      refine jr.icmp_ne rfl rfl (by first | exact rgl rfl | omega) (rgl rfl) (fun _ => ?_) (fun h => absurd (by decide) h)
      refine jr.iload_n rfl rfl ?_
      refine jr.iload rfl rfl ?_
      refine jr.iadd rfl ?_
      refine jr.iload rfl rfl ?_
      refine jr.icmp_le rfl rfl (by first | (refine rgb (by assumption) ?_; exact rfl) | omega) (by first | (refine rgb (by assumption) ?_; exact rfl) | omega) (fun h114 => ?_) (fun h114 => ?_)
      · refine jr.iload_n rfl rfl ?_
        refine jr.iconst rfl ?_
        refine jr.icmp_eq rfl rfl (by first | exact rgl rfl | omega) (rgl rfl) (fun h => absurd h (by decide)) (fun _ => ?_)
        refine jr.iload_n rfl rfl ?_
        refine jr.bipush rfl (jbp _ (nlt rfl)) ?_
        refine jr.icmp_ne rfl rfl (by first | exact rgl rfl | omega) (rgl rfl) (fun _ => ?_) (fun h => absurd (by decide) h)
        refine jr.iload_n rfl rfl ?_
        refine jr.iconst rfl ?_
        refine jr.icmp_eq rfl rfl (by first | exact rgl rfl | omega) (rgl rfl) (fun h => absurd h (by decide)) (fun _ => ?_)
        refine jr.iload_n rfl rfl ?_
        refine jr.iconst rfl ?_
        refine jr.icmp_ne rfl rfl (by first | exact rgl rfl | omega) (rgl rfl) (fun _ => ?_) (fun h => absurd (by decide) h)
        refine jr.iload_n rfl rfl ?_
        refine jr.bipush rfl (jbp _ (nlt rfl)) ?_
        refine jr.icmp_ne rfl rfl (by first | exact rgl rfl | omega) (rgl rfl) (fun _ => ?_) (fun h => absurd (by decide) h)
        refine jr.iconst rfl ?_
        refine jr.istore (ls' := [_, _, _, _, _, _, _]) rfl (nlt rfl) rfl ?_
        refine jr.iload_n rfl rfl ?_
        refine jr.iconst rfl ?_
        refine jr.icmp_ne rfl rfl (by first | exact rgl rfl | omega) (rgl rfl) (fun _ => ?_) (fun h => absurd (by decide) h)
        refine jr.iload rfl rfl ?_
        refine jr.iload_n rfl rfl ?_
        refine jr.isub rfl ?_
        refine jr.istore (ls' := [_, _, _, _, _, _, _, _]) rfl (nlt rfl) rfl ?_
        refine jr.iload rfl rfl ?_
        refine jr.iconst rfl ?_
        refine jr.icmp_eq rfl rfl (by first | exact rgl rfl | omega) (rgl rfl) (fun _ => ?_) (fun h => absurd (by decide) h)
        refine jr.iload rfl rfl ?_
        exact jr.ireturn rfl rfl rfl (q _ _ hI_M hH_M hS_M  (by omega) ⟨by omega, by have hn := e1; have hzK : hsZ (rf M x) (M 600 x) 0 a = 4 := rfl; have e1 : hsF (rf M x) (M 600 x) 0 3 0 a = 0 := (by rw [msF, if_neg (by omega), if_neg (by omega), if_neg (by omega), if_neg (by omega), if_neg (by omega), if_neg (by omega)]); exact Or.inr ⟨e1, by omega, by omega, rfl, rfl, rfl⟩⟩ (by omega) (fun a i f598 => rfl) (fun i g10 g11 g12 => rfl))
      · refine jr.aload_n rfl rfl ?_
        refine jr.iconst rfl ?_
        refine jr.iload rfl rfl ?_
        refine jr.iload_n rfl rfl ?_
        refine jr_v rfl rfl (Or.inl rfl) rfl rfl (nlt rfl) rfl ⟨rfl, Nat.le_of_ble_eq_true rfl, Nat.le_of_ble_eq_true rfl⟩ rfl (jc.deep (r_finds_x hI_M hH_M hS_M  (by omega) (by omega) (by omega)  (fun M3 hI_M3 hH_M3 hS_M3  w3_0 w3_1 w3_2 => ?_)) (Nat.le_of_ble_eq_true rfl))
        refine jr.iconst rfl ?_
        exact jr.ireturn rfl rfl rfl (q _ _ hI_M3 hH_M3 hS_M3  (by first | exact rgq rfl | omega) ⟨by omega, by have hn := e1; have hzK : hsZ (rf M x) (M 600 x) 0 a = 4 := rfl; have e1 : hsF (rf M x) (M 600 x) 0 3 0 a = 1 := (by rw [msF, if_neg (by omega), if_neg (by omega), if_pos (by omega)]); have e2 : hsW (rf M x) (M 600 x) 0 3 0 a = M 600 x := (by rw [msW, if_neg (by omega), if_neg (by omega), if_pos (by omega)]); exact Or.inl ⟨by omega, by omega, by omega, by omega, by omega⟩⟩ (by omega) (fun a i f598 => ((w3_1 a i f598).trans rfl)) (fun i g10 g11 g12 => ((w3_2 i g10 g11 g12).trans rfl)))
    · refine jr.aload_n rfl rfl ?_
      refine jr.iconst rfl ?_
      refine jr.iload rfl rfl ?_
      refine jr.iload_n rfl rfl ?_
      refine jr_v rfl rfl (Or.inl rfl) rfl rfl (nlt rfl) rfl ⟨rfl, Nat.le_of_ble_eq_true rfl, Nat.le_of_ble_eq_true rfl⟩ rfl (jc.deep (r_finds_x hI_M hH_M hS_M  (by omega) (by omega) (by omega)  (fun M4 hI_M4 hH_M4 hS_M4  w4_0 w4_1 w4_2 => ?_)) (Nat.le_of_ble_eq_true rfl))
      refine jr.iconst rfl ?_
      exact jr.ireturn rfl rfl rfl (q _ _ hI_M4 hH_M4 hS_M4  (by first | exact rgq rfl | omega) ⟨by omega, by have hn := e1; have e1 : hsF (rf M x) (M 600 x) 0 3 0 a = 1 := (by rw [msF, if_neg (by omega), if_neg (by omega), if_pos (by omega)]); have e2 : hsW (rf M x) (M 600 x) 0 3 0 a = M 600 x := (by rw [msW, if_neg (by omega), if_neg (by omega), if_pos (by omega)]); exact Or.inl ⟨by omega, by omega, by omega, by omega, by omega⟩⟩ (by omega) (fun a i f598 => ((w4_1 a i f598).trans rfl)) (fun i g10 g11 g12 => ((w4_2 i g10 g11 g12).trans rfl)))
  · have lk : lst 1 = 4 := rfl
    have lh : hls 1 = 4 := rfl
    have lr : lsr 1 = 4 := rfl
    refine jc_of (m := xm_262) rfl (Nat.le_of_ble_eq_true rfl) rfl ?_
    refine jr.aload_n rfl rfl ?_
    refine jr.getf (i := 3) (v := .ref 600) rfl rfl (nlt rfl) rfl (nlt rfl) rfl rfl rfl rfl ?_
    refine jr.iload_n rfl rfl ?_
    obtain ⟨v1, e1⟩ : ∃ z, M 600 x = z := ⟨_, rfl⟩
    have b1 : (-1) ≤ v1 ∧ v1 ≤ 400 := by rw [← e1]; exact (by have q := hI_M 600 x (Nat.le_of_ble_eq_true rfl); rw [xri_row rfl rfl] at q; exact q)
    refine jr.iald (i := x) (x := v1) rfl (nlt rfl) rfl (Nat.le_of_ble_eq_true rfl) (by omega) (by omega) e1 ?_
    refine jr.istore (ls' := [_, _, _, _, _]) rfl (nlt rfl) rfl ?_
    refine jr.iload_n rfl rfl ?_
    refine jr.iload rfl rfl ?_
    refine jr.icmp_lt rfl rfl (by first | (refine rgb (by assumption) ?_; exact rfl) | omega) (by first | (refine rgb (by assumption) ?_; exact rfl) | omega) (fun h11 => ?_) (fun h11 => ?_)
    · refine jr.iload_n rfl rfl ?_
      refine jr.iconst rfl ?_
      refine jr.icmp_ne rfl rfl (by first | exact rgl rfl | omega) (rgl rfl) (fun _ => ?_) (fun h => absurd (by decide) h)
      refine jr.iload_n rfl rfl ?_
      refine jr.iconst rfl ?_
      refine jr.icmp_ne rfl rfl (by first | exact rgl rfl | omega) (rgl rfl) (fun _ => ?_) (fun h => absurd (by decide) h)
      refine jr.iload_n rfl rfl ?_
      refine jr_s rfl rfl (Or.inl rfl) ⟨Nat.le_of_ble_eq_true rfl, Nat.le_of_ble_eq_true rfl⟩ rfl rfl (jc.deep (r_least_x hI_M hH_M hS_M  (by omega)  (fun r2 z2 w2_0 => ?_)) (Nat.le_of_ble_eq_true rfl))
      refine jr.istore (ls' := [_, _, _, _, _, _]) rfl (nlt rfl) rfl ?_
      refine jr.iload_n rfl rfl ?_
      refine jr.iconst rfl ?_
      refine jr.icmp_eq rfl rfl (by first | exact rgl rfl | omega) (rgl rfl) (fun h => absurd h (by decide)) (fun _ => ?_)
      refine jr.iload_n rfl rfl ?_
      refine jr.iconst rfl ?_
      refine jr.icmp_ne rfl rfl (by first | exact rgl rfl | omega) (rgl rfl) (fun _ => ?_) (fun h => absurd (by decide) h)
      refine jr.iload_n rfl rfl ?_
      refine jr.iload rfl rfl ?_
      refine jr.iadd rfl ?_
      refine jr.iload rfl rfl ?_
      refine jr.icmp_le rfl rfl (by first | (refine rgb (by assumption) ?_; exact rfl) | omega) (by first | (refine rgb (by assumption) ?_; exact rfl) | omega) (fun h114 => ?_) (fun h114 => ?_)
      · refine jr.iload_n rfl rfl ?_
        refine jr.iconst rfl ?_
        refine jr.icmp_eq rfl rfl (by first | exact rgl rfl | omega) (rgl rfl) (fun h => absurd h (by decide)) (fun _ => ?_)
        refine jr.iload_n rfl rfl ?_
        refine jr.bipush rfl (jbp _ (nlt rfl)) ?_
        refine jr.icmp_ne rfl rfl (by first | exact rgl rfl | omega) (rgl rfl) (fun _ => ?_) (fun h => absurd (by decide) h)
        refine jr.iload_n rfl rfl ?_
        refine jr.iconst rfl ?_
        refine jr.icmp_eq rfl rfl (by first | exact rgl rfl | omega) (rgl rfl) (fun h => absurd h (by decide)) (fun _ => ?_)
        refine jr.iload_n rfl rfl ?_
        refine jr.iconst rfl ?_
        refine jr.icmp_ne rfl rfl (by first | exact rgl rfl | omega) (rgl rfl) (fun _ => ?_) (fun h => absurd (by decide) h)
        refine jr.iload_n rfl rfl ?_
        refine jr.bipush rfl (jbp _ (nlt rfl)) ?_
        refine jr.icmp_ne rfl rfl (by first | exact rgl rfl | omega) (rgl rfl) (fun _ => ?_) (fun h => absurd (by decide) h)
        refine jr.iconst rfl ?_
        refine jr.istore (ls' := [_, _, _, _, _, _, _]) rfl (nlt rfl) rfl ?_
        refine jr.iload_n rfl rfl ?_
        refine jr.iconst rfl ?_
        refine jr.icmp_ne rfl rfl (by first | exact rgl rfl | omega) (rgl rfl) (fun _ => ?_) (fun h => absurd (by decide) h)
        refine jr.iload rfl rfl ?_
        refine jr.iload_n rfl rfl ?_
        refine jr.isub rfl ?_
        refine jr.istore (ls' := [_, _, _, _, _, _, _, _]) rfl (nlt rfl) rfl ?_
        refine jr.iload rfl rfl ?_
        refine jr.iconst rfl ?_
        refine jr.icmp_eq rfl rfl (by first | exact rgl rfl | omega) (rgl rfl) (fun _ => ?_) (fun h => absurd (by decide) h)
        refine jr.iload rfl rfl ?_
        exact jr.ireturn rfl rfl rfl (q _ _ hI_M hH_M hS_M  (by omega) ⟨by omega, by have hn := e1; have hzK : hsZ (rf M x) (M 600 x) 1 a = 4 := rfl; have e1 : hsF (rf M x) (M 600 x) 0 3 1 a = 0 := (by rw [msF, if_neg (by omega), if_neg (by omega), if_neg (by omega), if_neg (by omega), if_neg (by omega), if_neg (by omega)]); exact Or.inr ⟨e1, by omega, by omega, rfl, rfl, rfl⟩⟩ (by omega) (fun a i f598 => rfl) (fun i g10 g11 g12 => rfl))
      · refine jr.aload_n rfl rfl ?_
        refine jr.iconst rfl ?_
        refine jr.iload rfl rfl ?_
        refine jr.iload_n rfl rfl ?_
        refine jr_v rfl rfl (Or.inl rfl) rfl rfl (nlt rfl) rfl ⟨rfl, Nat.le_of_ble_eq_true rfl, Nat.le_of_ble_eq_true rfl⟩ rfl (jc.deep (r_finds_x hI_M hH_M hS_M  (by omega) (by omega) (by omega)  (fun M3 hI_M3 hH_M3 hS_M3  w3_0 w3_1 w3_2 => ?_)) (Nat.le_of_ble_eq_true rfl))
        refine jr.iconst rfl ?_
        exact jr.ireturn rfl rfl rfl (q _ _ hI_M3 hH_M3 hS_M3  (by first | exact rgq rfl | omega) ⟨by omega, by have hn := e1; have hzK : hsZ (rf M x) (M 600 x) 1 a = 4 := rfl; have e1 : hsF (rf M x) (M 600 x) 0 3 1 a = 1 := (by rw [msF, if_neg (by omega), if_neg (by omega), if_pos (by omega)]); have e2 : hsW (rf M x) (M 600 x) 0 3 1 a = M 600 x := (by rw [msW, if_neg (by omega), if_neg (by omega), if_pos (by omega)]); exact Or.inl ⟨by omega, by omega, by omega, by omega, by omega⟩⟩ (by omega) (fun a i f598 => ((w3_1 a i f598).trans rfl)) (fun i g10 g11 g12 => ((w3_2 i g10 g11 g12).trans rfl)))
    · refine jr.aload_n rfl rfl ?_
      refine jr.iconst rfl ?_
      refine jr.iload rfl rfl ?_
      refine jr.iload_n rfl rfl ?_
      refine jr_v rfl rfl (Or.inl rfl) rfl rfl (nlt rfl) rfl ⟨rfl, Nat.le_of_ble_eq_true rfl, Nat.le_of_ble_eq_true rfl⟩ rfl (jc.deep (r_finds_x hI_M hH_M hS_M  (by omega) (by omega) (by omega)  (fun M4 hI_M4 hH_M4 hS_M4  w4_0 w4_1 w4_2 => ?_)) (Nat.le_of_ble_eq_true rfl))
      refine jr.iconst rfl ?_
      exact jr.ireturn rfl rfl rfl (q _ _ hI_M4 hH_M4 hS_M4  (by first | exact rgq rfl | omega) ⟨by omega, by have hn := e1; have e1 : hsF (rf M x) (M 600 x) 0 3 1 a = 1 := (by rw [msF, if_neg (by omega), if_neg (by omega), if_pos (by omega)]); have e2 : hsW (rf M x) (M 600 x) 0 3 1 a = M 600 x := (by rw [msW, if_neg (by omega), if_neg (by omega), if_pos (by omega)]); exact Or.inl ⟨by omega, by omega, by omega, by omega, by omega⟩⟩ (by omega) (fun a i f598 => ((w4_1 a i f598).trans rfl)) (fun i g10 g11 g12 => ((w4_2 i g10 g11 g12).trans rfl)))
  · have lk : lst 2 = 20 := rfl
    have lh : hls 2 = 20 := rfl
    have lr : lsr 2 = 20 := rfl
    refine jc_of (m := xm_262) rfl (Nat.le_of_ble_eq_true rfl) rfl ?_
    refine jr.aload_n rfl rfl ?_
    refine jr.getf (i := 3) (v := .ref 600) rfl rfl (nlt rfl) rfl (nlt rfl) rfl rfl rfl rfl ?_
    refine jr.iload_n rfl rfl ?_
    obtain ⟨v1, e1⟩ : ∃ z, M 600 x = z := ⟨_, rfl⟩
    have b1 : (-1) ≤ v1 ∧ v1 ≤ 400 := by rw [← e1]; exact (by have q := hI_M 600 x (Nat.le_of_ble_eq_true rfl); rw [xri_row rfl rfl] at q; exact q)
    refine jr.iald (i := x) (x := v1) rfl (nlt rfl) rfl (Nat.le_of_ble_eq_true rfl) (by omega) (by omega) e1 ?_
    refine jr.istore (ls' := [_, _, _, _, _]) rfl (nlt rfl) rfl ?_
    refine jr.iload_n rfl rfl ?_
    refine jr.iload rfl rfl ?_
    refine jr.icmp_lt rfl rfl (by first | (refine rgb (by assumption) ?_; exact rfl) | omega) (by first | (refine rgb (by assumption) ?_; exact rfl) | omega) (fun h11 => ?_) (fun h11 => ?_)
    · refine jr.iload_n rfl rfl ?_
      refine jr.iconst rfl ?_
      refine jr.icmp_ne rfl rfl (by first | exact rgl rfl | omega) (rgl rfl) (fun h => absurd h (by decide)) (fun _ => ?_)
      refine jr.aload_n rfl rfl ?_
      refine jr.iload_n rfl rfl ?_
      refine jr.iload_n rfl rfl ?_
      refine jr_v rfl rfl (Or.inl rfl) rfl rfl (nlt rfl) rfl ⟨rfl, Nat.le_of_ble_eq_true rfl, Nat.le_of_ble_eq_true rfl⟩ rfl (jc.deep (r_one hI_M hH_M hS_M (Kp.rfl _) (by omega) (by omega)  (fun r2 z2 w2_0 => ?_)) (Nat.le_of_ble_eq_true rfl))
      refine jr.iconst rfl ?_
      refine jr.ishr rfl ?_
      have b3 : j_shr r2 4 = r2 / 16 := j_shr_ex 4 (by decide) (by omega) (by omega)
      generalize j_shr r2 4 = v3 at b3 ⊢
      refine jr.iconst rfl ?_
      refine jr.icmp_ne rfl rfl (by first | (refine rgb (by assumption) ?_; exact rfl) | omega) (rgl rfl) (fun h38 => ?_) (fun h38 => ?_)
      · refine jr.aload_n rfl rfl ?_
        refine jr.iconst rfl ?_
        refine jr.iload_n rfl rfl ?_
        refine jr.iload_n rfl rfl ?_
        refine jr_v rfl rfl (Or.inl rfl) rfl rfl (nlt rfl) rfl ⟨rfl, Nat.le_of_ble_eq_true rfl, Nat.le_of_ble_eq_true rfl⟩ rfl (jc.deep (r_finds_x hI_M hH_M hS_M  (by omega) (by omega) (by omega)  (fun M4 hI_M4 hH_M4 hS_M4  w4_0 w4_1 w4_2 => ?_)) (Nat.le_of_ble_eq_true rfl))
        refine jr.iconst rfl ?_
        exact jr.ireturn rfl rfl rfl (q _ _ hI_M4 hH_M4 hS_M4  (by first | exact rgq rfl | omega) ⟨by omega, by have hn := e1; have hbA : hb (rf M x) (M 600 x) (a) = M 601 (400 * x + (a)) := hb_i (by omega) (by omega); have e1 : hsF (rf M x) (M 600 x) 0 3 2 a = 3 := (by rw [msF, if_neg (by omega), if_pos (by omega)]); have e2 : hsW (rf M x) (M 600 x) 0 3 2 a = a := (by rw [msW, if_neg (by omega), if_pos (by omega)]); exact Or.inl ⟨by omega, by omega, by omega, by omega, by omega⟩⟩ (by omega) (fun a i f598 => ((w4_1 a i f598).trans rfl)) (fun i g10 g11 g12 => ((w4_2 i g10 g11 g12).trans rfl)))
      · refine jr.iload_n rfl rfl ?_
        refine jr.iconst rfl ?_
        refine jr.icmp_ne rfl rfl (by first | exact rgl rfl | omega) (rgl rfl) (fun _ => ?_) (fun h => absurd (by decide) h)
        refine jr.iload_n rfl rfl ?_
        refine jr_s rfl rfl (Or.inl rfl) ⟨Nat.le_of_ble_eq_true rfl, Nat.le_of_ble_eq_true rfl⟩ rfl rfl (jc.deep (r_least_x hI_M hH_M hS_M  (by omega)  (fun r5 z5 w5_0 => ?_)) (Nat.le_of_ble_eq_true rfl))
        refine jr.istore (ls' := [_, _, _, _, _, _]) rfl (nlt rfl) rfl ?_
        refine jr.iload_n rfl rfl ?_
        refine jr.iconst rfl ?_
        refine jr.icmp_eq rfl rfl (by first | exact rgl rfl | omega) (rgl rfl) (fun h => absurd h (by decide)) (fun _ => ?_)
        refine jr.iload_n rfl rfl ?_
        refine jr.iconst rfl ?_
        refine jr.icmp_ne rfl rfl (by first | exact rgl rfl | omega) (rgl rfl) (fun _ => ?_) (fun h => absurd (by decide) h)
        refine jr.iload_n rfl rfl ?_
        refine jr.iload rfl rfl ?_
        refine jr.iadd rfl ?_
        refine jr.iload rfl rfl ?_
        refine jr.icmp_le rfl rfl (by first | (refine rgb (by assumption) ?_; exact rfl) | omega) (by first | (refine rgb (by assumption) ?_; exact rfl) | omega) (fun h114 => ?_) (fun h114 => ?_)
        · refine jr.iload_n rfl rfl ?_
          refine jr.iconst rfl ?_
          refine jr.icmp_eq rfl rfl (by first | exact rgl rfl | omega) (rgl rfl) (fun _ => ?_) (fun h => absurd (by decide) h)
          refine jr.iload_n rfl rfl ?_
          refine jr.iconst rfl ?_
          refine jr.icmp_ne rfl rfl (by first | exact rgl rfl | omega) (rgl rfl) (fun h => absurd h (by decide)) (fun _ => ?_)
          refine jr.iload_n rfl rfl ?_
          refine jr.goto rfl rfl ?_
          refine jr.istore (ls' := [_, _, _, _, _, _, _]) rfl (nlt rfl) rfl ?_
          refine jr.iload_n rfl rfl ?_
          refine jr.iconst rfl ?_
          refine jr.icmp_ne rfl rfl (by first | exact rgl rfl | omega) (rgl rfl) (fun h => absurd h (by decide)) (fun _ => ?_)
          refine jr.aload_n rfl rfl ?_
          refine jr.iload_n rfl rfl ?_
          refine jr.iload rfl rfl ?_
          refine jr_v rfl rfl (Or.inl rfl) rfl rfl (nlt rfl) rfl ⟨rfl, Nat.le_of_ble_eq_true rfl, Nat.le_of_ble_eq_true rfl⟩ rfl (jc.deep (r_one hI_M hH_M hS_M (Kp.rfl _) (by omega) (by omega)  (fun r6 z6 w6_0 => ?_)) (Nat.le_of_ble_eq_true rfl))
          refine jr.bipush rfl (jbp _ (nlt rfl)) ?_
          refine jr.iand rfl ?_
          have b7 : j_and r6 15 = r6 % 16 := j_and_mask 4 (by decide) (by omega) (by omega)
          generalize j_and r6 15 = v7 at b7 ⊢
          refine jr.goto rfl rfl ?_
          refine jr.istore (ls' := [_, _, _, _, _, _, _, _]) rfl (nlt rfl) rfl ?_
          refine jr.iload rfl rfl ?_
          refine jr.iconst rfl ?_
          refine jr.icmp_ge rfl rfl (by first | (refine rgb (by assumption) ?_; exact rfl) | omega) (rgl rfl) (fun h185 => ?_) (fun h185 => ?_)
          · refine jr.iconst rfl ?_
            refine jr.iload rfl rfl ?_
            refine jr.imul rfl ?_
            refine jr.istore (ls' := [_, _, _, _, _, _, _, _]) rfl (nlt rfl) rfl ?_
            refine jr.iload_n rfl rfl ?_
            refine jr.iload rfl rfl ?_
            refine jr.iadd rfl ?_
            refine jr.iload rfl rfl ?_
            refine jr.icmp_le rfl rfl (by first | (refine rgb (by assumption) ?_; exact rfl) | omega) (by first | (refine rgb (by assumption) ?_; exact rfl) | omega) (fun h210 => ?_) (fun h210 => ?_)
            · refine jr.iload_n rfl rfl ?_
              refine jr.iconst rfl ?_
              refine jr.icmp_eq rfl rfl (by first | exact rgl rfl | omega) (rgl rfl) (fun _ => ?_) (fun h => absurd (by decide) h)
              refine jr.iload_n rfl rfl ?_
              refine jr.iconst rfl ?_
              refine jr.iadd rfl ?_
              refine jr.goto rfl rfl ?_
              refine jr.istore (ls' := [_, _, _, _, _, _, _, _]) rfl (nlt rfl) rfl ?_
              refine jr.iload_n rfl rfl ?_
              refine jr.iconst rfl ?_
              refine jr.icmp_ne rfl rfl (by first | exact rgl rfl | omega) (rgl rfl) (fun _ => ?_) (fun h => absurd (by decide) h)
              refine jr.iload rfl rfl ?_
              refine jr.iload_n rfl rfl ?_
              refine jr.isub rfl ?_
              refine jr.istore (ls' := [_, _, _, _, _, _, _, _]) rfl (nlt rfl) rfl ?_
              refine jr.iload rfl rfl ?_
              refine jr.iconst rfl ?_
              refine jr.icmp_eq rfl rfl (by first | (refine rgb (by assumption) ?_; exact rfl) | omega) (rgl rfl) (fun h278 => ?_) (fun h278 => ?_)
              · exact absurd h278 (by omega)
              · refine jr.aload_n rfl rfl ?_
                refine jr.iload_n rfl rfl ?_
                refine jr.iload rfl rfl ?_
                refine jr_v rfl rfl (Or.inl rfl) rfl rfl (nlt rfl) rfl ⟨rfl, Nat.le_of_ble_eq_true rfl, Nat.le_of_ble_eq_true rfl⟩ rfl (jc.deep (r_two_x hI_M hH_M hS_M  (by omega) (by omega)  (fun r8 z8 w8_0 => ?_)) (Nat.le_of_ble_eq_true rfl))
                refine jr.iload rfl rfl ?_
                refine jr.icmp_eq rfl rfl (by first | (refine rgb (by assumption) ?_; exact rfl) | omega) (by first | (refine rgb (by assumption) ?_; exact rfl) | omega) (fun h290 => ?_) (fun h290 => ?_)
                · refine jr.iload rfl rfl ?_
                  exact jr.ireturn rfl rfl rfl (q _ _ hI_M hH_M hS_M  (by omega) ⟨by omega, by have hn := e1; have hbA : hb (rf M x) (M 600 x) (a) = M 601 (400 * x + (a)) := hb_i (by omega) (by omega); have hzK : hsZ (rf M x) (M 600 x) 2 a = 4 * (hb (rf M x) (M 600 x) a % 16) := rfl; have e1 : hsF (rf M x) (M 600 x) 0 3 2 a = 0 := (by rw [msF, if_neg (by omega), if_neg (by omega), if_neg (by omega), if_neg (by omega), if_neg (by omega), if_neg (by omega)]); exact Or.inr ⟨e1, by omega, by omega, rfl, rfl, rfl⟩⟩ (by omega) (fun a i f598 => rfl) (fun i g10 g11 g12 => rfl))
                · refine jr.aload_n rfl rfl ?_
                  refine jr.iconst rfl ?_
                  refine jr.iload rfl rfl ?_
                  refine jr.iload_n rfl rfl ?_
                  refine jr_v rfl rfl (Or.inl rfl) rfl rfl (nlt rfl) rfl ⟨rfl, Nat.le_of_ble_eq_true rfl, Nat.le_of_ble_eq_true rfl⟩ rfl (jc.deep (r_finds_x hI_M hH_M hS_M  (by omega) (by omega) (by omega)  (fun M9 hI_M9 hH_M9 hS_M9  w9_0 w9_1 w9_2 => ?_)) (Nat.le_of_ble_eq_true rfl))
                  refine jr.iconst rfl ?_
                  exact jr.ireturn rfl rfl rfl (q _ _ hI_M9 hH_M9 hS_M9  (by first | exact rgq rfl | omega) ⟨by omega, by have hn := e1; have hbA : hb (rf M x) (M 600 x) (a) = M 601 (400 * x + (a)) := hb_i (by omega) (by omega); have hzK : hsZ (rf M x) (M 600 x) 2 a = 4 * (hb (rf M x) (M 600 x) a % 16) := rfl; have e1 : hsF (rf M x) (M 600 x) 0 3 2 a = 5 := (by rw [msF, if_neg (by omega), if_neg (by omega), if_neg (by omega), if_neg (by omega), if_neg (by omega), if_pos (by omega)]); have e2 : hsW (rf M x) (M 600 x) 0 3 2 a = a + 2 := (by rw [msW, if_neg (by omega), if_neg (by omega), if_neg (by omega), if_neg (by omega), if_neg (by omega)]; exact if_neg (by decide)); exact Or.inl ⟨by omega, by omega, by omega, by omega, by omega⟩⟩ (by omega) (fun a i f598 => ((w9_1 a i f598).trans rfl)) (fun i g10 g11 g12 => ((w9_2 i g10 g11 g12).trans rfl)))
            · refine jr.aload_n rfl rfl ?_
              refine jr.iconst rfl ?_
              refine jr.iload rfl rfl ?_
              refine jr.iload_n rfl rfl ?_
              refine jr_v rfl rfl (Or.inl rfl) rfl rfl (nlt rfl) rfl ⟨rfl, Nat.le_of_ble_eq_true rfl, Nat.le_of_ble_eq_true rfl⟩ rfl (jc.deep (r_finds_x hI_M hH_M hS_M  (by omega) (by omega) (by omega)  (fun M10 hI_M10 hH_M10 hS_M10  w10_0 w10_1 w10_2 => ?_)) (Nat.le_of_ble_eq_true rfl))
              refine jr.iconst rfl ?_
              exact jr.ireturn rfl rfl rfl (q _ _ hI_M10 hH_M10 hS_M10  (by first | exact rgq rfl | omega) ⟨by omega, by have hn := e1; have hbA : hb (rf M x) (M 600 x) (a) = M 601 (400 * x + (a)) := hb_i (by omega) (by omega); have hzK : hsZ (rf M x) (M 600 x) 2 a = 4 * (hb (rf M x) (M 600 x) a % 16) := rfl; have e1 : hsF (rf M x) (M 600 x) 0 3 2 a = 1 := (by rw [msF, if_neg (by omega), if_neg (by omega), if_neg (by omega), if_neg (by omega), if_pos (by omega)]); have e2 : hsW (rf M x) (M 600 x) 0 3 2 a = M 600 x := (by rw [msW, if_neg (by omega), if_neg (by omega), if_neg (by omega), if_neg (by omega), if_pos (by omega)]); exact Or.inl ⟨by omega, by omega, by omega, by omega, by omega⟩⟩ (by omega) (fun a i f598 => ((w10_1 a i f598).trans rfl)) (fun i g10 g11 g12 => ((w10_2 i g10 g11 g12).trans rfl)))
          · refine jr.aload_n rfl rfl ?_
            refine jr.iconst rfl ?_
            refine jr.iload rfl rfl ?_
            refine jr.iload_n rfl rfl ?_
            refine jr_v rfl rfl (Or.inl rfl) rfl rfl (nlt rfl) rfl ⟨rfl, Nat.le_of_ble_eq_true rfl, Nat.le_of_ble_eq_true rfl⟩ rfl (jc.deep (r_finds_x hI_M hH_M hS_M  (by omega) (by omega) (by omega)  (fun M11 hI_M11 hH_M11 hS_M11  w11_0 w11_1 w11_2 => ?_)) (Nat.le_of_ble_eq_true rfl))
            refine jr.iconst rfl ?_
            exact jr.ireturn rfl rfl rfl (q _ _ hI_M11 hH_M11 hS_M11  (by first | exact rgq rfl | omega) ⟨by omega, by have hn := e1; have hbA : hb (rf M x) (M 600 x) (a) = M 601 (400 * x + (a)) := hb_i (by omega) (by omega); have hzK : hsZ (rf M x) (M 600 x) 2 a = 4 * (hb (rf M x) (M 600 x) a % 16) := rfl; have e1 : hsF (rf M x) (M 600 x) 0 3 2 a = 4 := (by rw [msF, if_neg (by omega), if_neg (by omega), if_neg (by omega), if_pos (by omega)]); have e2 : hsW (rf M x) (M 600 x) 0 3 2 a = a := (by rw [msW, if_neg (by omega), if_neg (by omega), if_neg (by omega), if_pos (by omega)]; exact if_pos rfl); exact Or.inl ⟨by omega, by omega, by omega, by omega, by omega⟩⟩ (by omega) (fun a i f598 => ((w11_1 a i f598).trans rfl)) (fun i g10 g11 g12 => ((w11_2 i g10 g11 g12).trans rfl)))
        · refine jr.aload_n rfl rfl ?_
          refine jr.iconst rfl ?_
          refine jr.iload rfl rfl ?_
          refine jr.iload_n rfl rfl ?_
          refine jr_v rfl rfl (Or.inl rfl) rfl rfl (nlt rfl) rfl ⟨rfl, Nat.le_of_ble_eq_true rfl, Nat.le_of_ble_eq_true rfl⟩ rfl (jc.deep (r_finds_x hI_M hH_M hS_M  (by omega) (by omega) (by omega)  (fun M12 hI_M12 hH_M12 hS_M12  w12_0 w12_1 w12_2 => ?_)) (Nat.le_of_ble_eq_true rfl))
          refine jr.iconst rfl ?_
          exact jr.ireturn rfl rfl rfl (q _ _ hI_M12 hH_M12 hS_M12  (by first | exact rgq rfl | omega) ⟨by omega, by have hn := e1; have hbA : hb (rf M x) (M 600 x) (a) = M 601 (400 * x + (a)) := hb_i (by omega) (by omega); have hzK : hsZ (rf M x) (M 600 x) 2 a = 4 * (hb (rf M x) (M 600 x) a % 16) := rfl; have e1 : hsF (rf M x) (M 600 x) 0 3 2 a = 1 := (by rw [msF, if_neg (by omega), if_neg (by omega), if_pos (by omega)]); have e2 : hsW (rf M x) (M 600 x) 0 3 2 a = M 600 x := (by rw [msW, if_neg (by omega), if_neg (by omega), if_pos (by omega)]); exact Or.inl ⟨by omega, by omega, by omega, by omega, by omega⟩⟩ (by omega) (fun a i f598 => ((w12_1 a i f598).trans rfl)) (fun i g10 g11 g12 => ((w12_2 i g10 g11 g12).trans rfl)))
    · refine jr.aload_n rfl rfl ?_
      refine jr.iconst rfl ?_
      refine jr.iload rfl rfl ?_
      refine jr.iload_n rfl rfl ?_
      refine jr_v rfl rfl (Or.inl rfl) rfl rfl (nlt rfl) rfl ⟨rfl, Nat.le_of_ble_eq_true rfl, Nat.le_of_ble_eq_true rfl⟩ rfl (jc.deep (r_finds_x hI_M hH_M hS_M  (by omega) (by omega) (by omega)  (fun M13 hI_M13 hH_M13 hS_M13  w13_0 w13_1 w13_2 => ?_)) (Nat.le_of_ble_eq_true rfl))
      refine jr.iconst rfl ?_
      exact jr.ireturn rfl rfl rfl (q _ _ hI_M13 hH_M13 hS_M13  (by first | exact rgq rfl | omega) ⟨by omega, by have hn := e1; have e1 : hsF (rf M x) (M 600 x) 0 3 2 a = 1 := (by rw [msF, if_pos (by omega)]); have e2 : hsW (rf M x) (M 600 x) 0 3 2 a = M 600 x := (by rw [msW, if_pos (by omega)]); exact Or.inl ⟨by omega, by omega, by omega, by omega, by omega⟩⟩ (by omega) (fun a i f598 => ((w13_1 a i f598).trans rfl)) (fun i g10 g11 g12 => ((w13_2 i g10 g11 g12).trans rfl)))
  · have lk : lst 3 = 24 := rfl
    have lh : hls 3 = 24 := rfl
    have lr : lsr 3 = 24 := rfl
    refine jc_of (m := xm_262) rfl (Nat.le_of_ble_eq_true rfl) rfl ?_
    refine jr.aload_n rfl rfl ?_
    refine jr.getf (i := 3) (v := .ref 600) rfl rfl (nlt rfl) rfl (nlt rfl) rfl rfl rfl rfl ?_
    refine jr.iload_n rfl rfl ?_
    obtain ⟨v1, e1⟩ : ∃ z, M 600 x = z := ⟨_, rfl⟩
    have b1 : (-1) ≤ v1 ∧ v1 ≤ 400 := by rw [← e1]; exact (by have q := hI_M 600 x (Nat.le_of_ble_eq_true rfl); rw [xri_row rfl rfl] at q; exact q)
    refine jr.iald (i := x) (x := v1) rfl (nlt rfl) rfl (Nat.le_of_ble_eq_true rfl) (by omega) (by omega) e1 ?_
    refine jr.istore (ls' := [_, _, _, _, _]) rfl (nlt rfl) rfl ?_
    refine jr.iload_n rfl rfl ?_
    refine jr.iload rfl rfl ?_
    refine jr.icmp_lt rfl rfl (by first | (refine rgb (by assumption) ?_; exact rfl) | omega) (by first | (refine rgb (by assumption) ?_; exact rfl) | omega) (fun h11 => ?_) (fun h11 => ?_)
    · refine jr.iload_n rfl rfl ?_
      refine jr.iconst rfl ?_
      refine jr.icmp_ne rfl rfl (by first | exact rgl rfl | omega) (rgl rfl) (fun _ => ?_) (fun h => absurd (by decide) h)
      refine jr.iload_n rfl rfl ?_
      refine jr.iconst rfl ?_
      refine jr.icmp_ne rfl rfl (by first | exact rgl rfl | omega) (rgl rfl) (fun h => absurd h (by decide)) (fun _ => ?_)
      refine jr.aload_n rfl rfl ?_
      refine jr.iload_n rfl rfl ?_
      refine jr.iload_n rfl rfl ?_
      refine jr_v rfl rfl (Or.inl rfl) rfl rfl (nlt rfl) rfl ⟨rfl, Nat.le_of_ble_eq_true rfl, Nat.le_of_ble_eq_true rfl⟩ rfl (jc.deep (r_one hI_M hH_M hS_M (Kp.rfl _) (by omega) (by omega)  (fun r2 z2 w2_0 => ?_)) (Nat.le_of_ble_eq_true rfl))
      refine jr.iconst rfl ?_
      refine jr.ishr rfl ?_
      have b3 : j_shr r2 4 = r2 / 16 := j_shr_ex 4 (by decide) (by omega) (by omega)
      generalize j_shr r2 4 = v3 at b3 ⊢
      refine jr.bipush rfl (jbp _ (nlt rfl)) ?_
      refine jr.icmp_eq rfl rfl (by first | (refine rgb (by assumption) ?_; exact rfl) | omega) (rgl rfl) (fun h56 => ?_) (fun h56 => ?_)
      · refine jr.iload_n rfl rfl ?_
        refine jr_s rfl rfl (Or.inl rfl) ⟨Nat.le_of_ble_eq_true rfl, Nat.le_of_ble_eq_true rfl⟩ rfl rfl (jc.deep (r_least_x hI_M hH_M hS_M  (by omega)  (fun r4 z4 w4_0 => ?_)) (Nat.le_of_ble_eq_true rfl))
        refine jr.istore (ls' := [_, _, _, _, _, _]) rfl (nlt rfl) rfl ?_
        refine jr.iload_n rfl rfl ?_
        refine jr.iconst rfl ?_
        refine jr.icmp_eq rfl rfl (by first | exact rgl rfl | omega) (rgl rfl) (fun h => absurd h (by decide)) (fun _ => ?_)
        refine jr.iload_n rfl rfl ?_
        refine jr.iconst rfl ?_
        refine jr.icmp_ne rfl rfl (by first | exact rgl rfl | omega) (rgl rfl) (fun _ => ?_) (fun h => absurd (by decide) h)
        refine jr.iload_n rfl rfl ?_
        refine jr.iload rfl rfl ?_
        refine jr.iadd rfl ?_
        refine jr.iload rfl rfl ?_
        refine jr.icmp_le rfl rfl (by first | (refine rgb (by assumption) ?_; exact rfl) | omega) (by first | (refine rgb (by assumption) ?_; exact rfl) | omega) (fun h114 => ?_) (fun h114 => ?_)
        · refine jr.iload_n rfl rfl ?_
          refine jr.iconst rfl ?_
          refine jr.icmp_eq rfl rfl (by first | exact rgl rfl | omega) (rgl rfl) (fun h => absurd h (by decide)) (fun _ => ?_)
          refine jr.iload_n rfl rfl ?_
          refine jr.bipush rfl (jbp _ (nlt rfl)) ?_
          refine jr.icmp_ne rfl rfl (by first | exact rgl rfl | omega) (rgl rfl) (fun _ => ?_) (fun h => absurd (by decide) h)
          refine jr.iload_n rfl rfl ?_
          refine jr.iconst rfl ?_
          refine jr.icmp_eq rfl rfl (by first | exact rgl rfl | omega) (rgl rfl) (fun h => absurd h (by decide)) (fun _ => ?_)
          refine jr.iload_n rfl rfl ?_
          refine jr.iconst rfl ?_
          refine jr.icmp_ne rfl rfl (by first | exact rgl rfl | omega) (rgl rfl) (fun h => absurd h (by decide)) (fun _ => ?_)
          refine jr.iload_n rfl rfl ?_
          refine jr.iconst rfl ?_
          refine jr.iadd rfl ?_
          refine jr.goto rfl rfl ?_
          refine jr.istore (ls' := [_, _, _, _, _, _, _]) rfl (nlt rfl) rfl ?_
          refine jr.iload_n rfl rfl ?_
          refine jr.iconst rfl ?_
          refine jr.icmp_ne rfl rfl (by first | exact rgl rfl | omega) (rgl rfl) (fun h => absurd h (by decide)) (fun _ => ?_)
          refine jr.iload rfl rfl ?_
          refine jr.iload_n rfl rfl ?_
          refine jr.isub rfl ?_
          refine jr.bipush rfl (jbp _ (nlt rfl)) ?_
          refine jr.isub rfl ?_
          refine jr.goto rfl rfl ?_
          refine jr.istore (ls' := [_, _, _, _, _, _, _, _]) rfl (nlt rfl) rfl ?_
          refine jr.iload rfl rfl ?_
          refine jr.iconst rfl ?_
          refine jr.icmp_eq rfl rfl (by first | (refine rgb (by assumption) ?_; exact rfl) | omega) (rgl rfl) (fun h278 => ?_) (fun h278 => ?_)
          · exact absurd h278 (by omega)
          · refine jr.aload_n rfl rfl ?_
            refine jr.iload_n rfl rfl ?_
            refine jr.iload rfl rfl ?_
            refine jr_v rfl rfl (Or.inl rfl) rfl rfl (nlt rfl) rfl ⟨rfl, Nat.le_of_ble_eq_true rfl, Nat.le_of_ble_eq_true rfl⟩ rfl (jc.deep (r_two_x hI_M hH_M hS_M  (by omega) (by omega)  (fun r5 z5 w5_0 => ?_)) (Nat.le_of_ble_eq_true rfl))
            refine jr.iload rfl rfl ?_
            refine jr.icmp_eq rfl rfl (by first | (refine rgb (by assumption) ?_; exact rfl) | omega) (by first | (refine rgb (by assumption) ?_; exact rfl) | omega) (fun h290 => ?_) (fun h290 => ?_)
            · refine jr.iload rfl rfl ?_
              exact jr.ireturn rfl rfl rfl (q _ _ hI_M hH_M hS_M  (by omega) ⟨by omega, by have hn := e1; have hbA : hb (rf M x) (M 600 x) (a) = M 601 (400 * x + (a)) := hb_i (by omega) (by omega); have hzK : hsZ (rf M x) (M 600 x) 3 a = 24 := rfl; have e1 : hsF (rf M x) (M 600 x) 0 3 3 a = 0 := (by rw [msF, if_neg (by omega), if_neg (by omega), if_neg (by omega), if_neg (by omega), if_neg (by omega), if_neg (by omega)]); exact Or.inr ⟨e1, by omega, by omega, rfl, rfl, rfl⟩⟩ (by omega) (fun a i f598 => rfl) (fun i g10 g11 g12 => rfl))
            · refine jr.aload_n rfl rfl ?_
              refine jr.iconst rfl ?_
              refine jr.iload rfl rfl ?_
              refine jr.iload_n rfl rfl ?_
              refine jr_v rfl rfl (Or.inl rfl) rfl rfl (nlt rfl) rfl ⟨rfl, Nat.le_of_ble_eq_true rfl, Nat.le_of_ble_eq_true rfl⟩ rfl (jc.deep (r_finds_x hI_M hH_M hS_M  (by omega) (by omega) (by omega)  (fun M6 hI_M6 hH_M6 hS_M6  w6_0 w6_1 w6_2 => ?_)) (Nat.le_of_ble_eq_true rfl))
              refine jr.iconst rfl ?_
              exact jr.ireturn rfl rfl rfl (q _ _ hI_M6 hH_M6 hS_M6  (by first | exact rgq rfl | omega) ⟨by omega, by have hn := e1; have hbA : hb (rf M x) (M 600 x) (a) = M 601 (400 * x + (a)) := hb_i (by omega) (by omega); have hzK : hsZ (rf M x) (M 600 x) 3 a = 24 := rfl; have e1 : hsF (rf M x) (M 600 x) 0 3 3 a = 5 := (by rw [msF, if_neg (by omega), if_neg (by omega), if_neg (by omega), if_neg (by omega), if_neg (by omega), if_pos (by omega)]); have e2 : hsW (rf M x) (M 600 x) 0 3 3 a = a + 2 := (by rw [msW, if_neg (by omega), if_neg (by omega), if_neg (by omega), if_neg (by omega), if_neg (by omega)]; exact if_neg (by decide)); exact Or.inl ⟨by omega, by omega, by omega, by omega, by omega⟩⟩ (by omega) (fun a i f598 => ((w6_1 a i f598).trans rfl)) (fun i g10 g11 g12 => ((w6_2 i g10 g11 g12).trans rfl)))
        · refine jr.aload_n rfl rfl ?_
          refine jr.iconst rfl ?_
          refine jr.iload rfl rfl ?_
          refine jr.iload_n rfl rfl ?_
          refine jr_v rfl rfl (Or.inl rfl) rfl rfl (nlt rfl) rfl ⟨rfl, Nat.le_of_ble_eq_true rfl, Nat.le_of_ble_eq_true rfl⟩ rfl (jc.deep (r_finds_x hI_M hH_M hS_M  (by omega) (by omega) (by omega)  (fun M7 hI_M7 hH_M7 hS_M7  w7_0 w7_1 w7_2 => ?_)) (Nat.le_of_ble_eq_true rfl))
          refine jr.iconst rfl ?_
          exact jr.ireturn rfl rfl rfl (q _ _ hI_M7 hH_M7 hS_M7  (by first | exact rgq rfl | omega) ⟨by omega, by have hn := e1; have hbA : hb (rf M x) (M 600 x) (a) = M 601 (400 * x + (a)) := hb_i (by omega) (by omega); have hzK : hsZ (rf M x) (M 600 x) 3 a = 24 := rfl; have e1 : hsF (rf M x) (M 600 x) 0 3 3 a = 1 := (by rw [msF, if_neg (by omega), if_neg (by omega), if_pos (by omega)]); have e2 : hsW (rf M x) (M 600 x) 0 3 3 a = M 600 x := (by rw [msW, if_neg (by omega), if_neg (by omega), if_pos (by omega)]); exact Or.inl ⟨by omega, by omega, by omega, by omega, by omega⟩⟩ (by omega) (fun a i f598 => ((w7_1 a i f598).trans rfl)) (fun i g10 g11 g12 => ((w7_2 i g10 g11 g12).trans rfl)))
      · refine jr.aload_n rfl rfl ?_
        refine jr.iconst rfl ?_
        refine jr.iload_n rfl rfl ?_
        refine jr.iload_n rfl rfl ?_
        refine jr_v rfl rfl (Or.inl rfl) rfl rfl (nlt rfl) rfl ⟨rfl, Nat.le_of_ble_eq_true rfl, Nat.le_of_ble_eq_true rfl⟩ rfl (jc.deep (r_finds_x hI_M hH_M hS_M  (by omega) (by omega) (by omega)  (fun M8 hI_M8 hH_M8 hS_M8  w8_0 w8_1 w8_2 => ?_)) (Nat.le_of_ble_eq_true rfl))
        refine jr.iconst rfl ?_
        exact jr.ireturn rfl rfl rfl (q _ _ hI_M8 hH_M8 hS_M8  (by first | exact rgq rfl | omega) ⟨by omega, by have hn := e1; have hbA : hb (rf M x) (M 600 x) (a) = M 601 (400 * x + (a)) := hb_i (by omega) (by omega); have e1 : hsF (rf M x) (M 600 x) 0 3 3 a = 3 := (by rw [msF, if_neg (by omega), if_pos (by omega)]); have e2 : hsW (rf M x) (M 600 x) 0 3 3 a = a := (by rw [msW, if_neg (by omega), if_pos (by omega)]); exact Or.inl ⟨by omega, by omega, by omega, by omega, by omega⟩⟩ (by omega) (fun a i f598 => ((w8_1 a i f598).trans rfl)) (fun i g10 g11 g12 => ((w8_2 i g10 g11 g12).trans rfl)))
    · refine jr.aload_n rfl rfl ?_
      refine jr.iconst rfl ?_
      refine jr.iload rfl rfl ?_
      refine jr.iload_n rfl rfl ?_
      refine jr_v rfl rfl (Or.inl rfl) rfl rfl (nlt rfl) rfl ⟨rfl, Nat.le_of_ble_eq_true rfl, Nat.le_of_ble_eq_true rfl⟩ rfl (jc.deep (r_finds_x hI_M hH_M hS_M  (by omega) (by omega) (by omega)  (fun M9 hI_M9 hH_M9 hS_M9  w9_0 w9_1 w9_2 => ?_)) (Nat.le_of_ble_eq_true rfl))
      refine jr.iconst rfl ?_
      exact jr.ireturn rfl rfl rfl (q _ _ hI_M9 hH_M9 hS_M9  (by first | exact rgq rfl | omega) ⟨by omega, by have hn := e1; have e1 : hsF (rf M x) (M 600 x) 0 3 3 a = 1 := (by rw [msF, if_pos (by omega)]); have e2 : hsW (rf M x) (M 600 x) 0 3 3 a = M 600 x := (by rw [msW, if_pos (by omega)]); exact Or.inl ⟨by omega, by omega, by omega, by omega, by omega⟩⟩ (by omega) (fun a i f598 => ((w9_1 a i f598).trans rfl)) (fun i g10 g11 g12 => ((w9_2 i g10 g11 g12).trans rfl)))
  · have lk : lst 4 = 8 := rfl
    have lh : hls 4 = 2 := rfl
    have lr : lsr 4 = 8 := rfl
    refine jc_of (m := xm_262) rfl (Nat.le_of_ble_eq_true rfl) rfl ?_
    refine jr.aload_n rfl rfl ?_
    refine jr.getf (i := 3) (v := .ref 600) rfl rfl (nlt rfl) rfl (nlt rfl) rfl rfl rfl rfl ?_
    refine jr.iload_n rfl rfl ?_
    obtain ⟨v1, e1⟩ : ∃ z, M 600 x = z := ⟨_, rfl⟩
    have b1 : (-1) ≤ v1 ∧ v1 ≤ 400 := by rw [← e1]; exact (by have q := hI_M 600 x (Nat.le_of_ble_eq_true rfl); rw [xri_row rfl rfl] at q; exact q)
    refine jr.iald (i := x) (x := v1) rfl (nlt rfl) rfl (Nat.le_of_ble_eq_true rfl) (by omega) (by omega) e1 ?_
    refine jr.istore (ls' := [_, _, _, _, _]) rfl (nlt rfl) rfl ?_
    refine jr.iload_n rfl rfl ?_
    refine jr.iload rfl rfl ?_
    refine jr.icmp_lt rfl rfl (by first | (refine rgb (by assumption) ?_; exact rfl) | omega) (by first | (refine rgb (by assumption) ?_; exact rfl) | omega) (fun h11 => ?_) (fun h11 => ?_)
    · refine jr.iload_n rfl rfl ?_
      refine jr.iconst rfl ?_
      refine jr.icmp_ne rfl rfl (by first | exact rgl rfl | omega) (rgl rfl) (fun _ => ?_) (fun h => absurd (by decide) h)
      refine jr.iload_n rfl rfl ?_
      refine jr.iconst rfl ?_
      refine jr.icmp_ne rfl rfl (by first | exact rgl rfl | omega) (rgl rfl) (fun _ => ?_) (fun h => absurd (by decide) h)
      refine jr.iload_n rfl rfl ?_
      refine jr_s rfl rfl (Or.inl rfl) ⟨Nat.le_of_ble_eq_true rfl, Nat.le_of_ble_eq_true rfl⟩ rfl rfl (jc.deep (r_least_x hI_M hH_M hS_M  (by omega)  (fun r2 z2 w2_0 => ?_)) (Nat.le_of_ble_eq_true rfl))
      refine jr.istore (ls' := [_, _, _, _, _, _]) rfl (nlt rfl) rfl ?_
      refine jr.iload_n rfl rfl ?_
      refine jr.iconst rfl ?_
      refine jr.icmp_eq rfl rfl (by first | exact rgl rfl | omega) (rgl rfl) (fun _ => ?_) (fun h => absurd (by decide) h)
      refine jr.iload_n rfl rfl ?_
      refine jr.iconst rfl ?_
      refine jr.iadd rfl ?_
      refine jr.iload rfl rfl ?_
      refine jr.icmp_gt rfl rfl (by first | (refine rgb (by assumption) ?_; exact rfl) | omega) (by first | (refine rgb (by assumption) ?_; exact rfl) | omega) (fun h89 => ?_) (fun h89 => ?_)
      · refine jr.iload_n rfl rfl ?_
        refine jr.iload rfl rfl ?_
        refine jr.iadd rfl ?_
        refine jr.iload rfl rfl ?_
        refine jr.icmp_le rfl rfl (by first | (refine rgb (by assumption) ?_; exact rfl) | omega) (by first | (refine rgb (by assumption) ?_; exact rfl) | omega) (fun h114 => ?_) (fun h114 => ?_)
        · refine jr.iload_n rfl rfl ?_
          refine jr.iconst rfl ?_
          refine jr.icmp_eq rfl rfl (by first | exact rgl rfl | omega) (rgl rfl) (fun h => absurd h (by decide)) (fun _ => ?_)
          refine jr.iload_n rfl rfl ?_
          refine jr.bipush rfl (jbp _ (nlt rfl)) ?_
          refine jr.icmp_ne rfl rfl (by first | exact rgl rfl | omega) (rgl rfl) (fun _ => ?_) (fun h => absurd (by decide) h)
          refine jr.iload_n rfl rfl ?_
          refine jr.iconst rfl ?_
          refine jr.icmp_eq rfl rfl (by first | exact rgl rfl | omega) (rgl rfl) (fun h => absurd h (by decide)) (fun _ => ?_)
          refine jr.iload_n rfl rfl ?_
          refine jr.iconst rfl ?_
          refine jr.icmp_ne rfl rfl (by first | exact rgl rfl | omega) (rgl rfl) (fun _ => ?_) (fun h => absurd (by decide) h)
          refine jr.iload_n rfl rfl ?_
          refine jr.bipush rfl (jbp _ (nlt rfl)) ?_
          refine jr.icmp_ne rfl rfl (by first | exact rgl rfl | omega) (rgl rfl) (fun _ => ?_) (fun h => absurd (by decide) h)
          refine jr.iconst rfl ?_
          refine jr.istore (ls' := [_, _, _, _, _, _, _]) rfl (nlt rfl) rfl ?_
          refine jr.iload_n rfl rfl ?_
          refine jr.iconst rfl ?_
          refine jr.icmp_ne rfl rfl (by first | exact rgl rfl | omega) (rgl rfl) (fun _ => ?_) (fun h => absurd (by decide) h)
          refine jr.iload rfl rfl ?_
          refine jr.iload_n rfl rfl ?_
          refine jr.isub rfl ?_
          refine jr.istore (ls' := [_, _, _, _, _, _, _, _]) rfl (nlt rfl) rfl ?_
          refine jr.iload rfl rfl ?_
          refine jr.iconst rfl ?_
          refine jr.icmp_eq rfl rfl (by first | exact rgl rfl | omega) (rgl rfl) (fun _ => ?_) (fun h => absurd (by decide) h)
          refine jr.iload rfl rfl ?_
          exact jr.ireturn rfl rfl rfl (q _ _ hI_M hH_M hS_M  (by omega) ⟨by omega, by have hn := e1; have hzK : hsZ (rf M x) (M 600 x) 4 a = 8 * hb (rf M x) (M 600 x) (a + 1) + 8 := rfl; have hbB : hb (rf M x) (M 600 x) (a + 1) = M 601 (400 * x + (a + 1)) := hb_i (by omega) (by omega); have e1 : hsF (rf M x) (M 600 x) 0 3 4 a = 0 := (by rw [msF, if_neg (by omega), if_neg (by omega), if_neg (by omega), if_neg (by omega), if_neg (by omega), if_neg (by omega)]); exact Or.inr ⟨e1, by omega, by omega, rfl, rfl, rfl⟩⟩ (by omega) (fun a i f598 => rfl) (fun i g10 g11 g12 => rfl))
        · refine jr.aload_n rfl rfl ?_
          refine jr.iconst rfl ?_
          refine jr.iload rfl rfl ?_
          refine jr.iload_n rfl rfl ?_
          refine jr_v rfl rfl (Or.inl rfl) rfl rfl (nlt rfl) rfl ⟨rfl, Nat.le_of_ble_eq_true rfl, Nat.le_of_ble_eq_true rfl⟩ rfl (jc.deep (r_finds_x hI_M hH_M hS_M  (by omega) (by omega) (by omega)  (fun M3 hI_M3 hH_M3 hS_M3  w3_0 w3_1 w3_2 => ?_)) (Nat.le_of_ble_eq_true rfl))
          refine jr.iconst rfl ?_
          exact jr.ireturn rfl rfl rfl (q _ _ hI_M3 hH_M3 hS_M3  (by first | exact rgq rfl | omega) ⟨by omega, by have hn := e1; have hzK : hsZ (rf M x) (M 600 x) 4 a = 8 * hb (rf M x) (M 600 x) (a + 1) + 8 := rfl; first | (have e1 : hsF (rf M x) (M 600 x) 0 3 4 a = 1 := (by rw [msF, if_neg (by omega), if_neg (by omega), if_pos (by omega)]); have e2 : hsW (rf M x) (M 600 x) 0 3 4 a = M 600 x := (by rw [msW, if_neg (by omega), if_neg (by omega), if_pos (by omega)]); exact Or.inl ⟨by omega, by omega, by omega, by omega, by omega⟩) | (have hbB : hb (rf M x) (M 600 x) (a + 1) = M 601 (400 * x + (a + 1)) := hb_i (by omega) (by omega); have e1 : hsF (rf M x) (M 600 x) 0 3 4 a = 1 := (by rw [msF, if_neg (by omega), if_neg (by omega), if_neg (by omega), if_neg (by omega), if_pos (by omega)]); have e2 : hsW (rf M x) (M 600 x) 0 3 4 a = M 600 x := (by rw [msW, if_neg (by omega), if_neg (by omega), if_neg (by omega), if_neg (by omega), if_pos (by omega)]); exact Or.inl ⟨by omega, by omega, by omega, by omega, by omega⟩)⟩ (by omega) (fun a i f598 => ((w3_1 a i f598).trans rfl)) (fun i g10 g11 g12 => ((w3_2 i g10 g11 g12).trans rfl)))
      · refine jr.bipush rfl (jbp _ (nlt rfl)) ?_
        refine jr.aload_n rfl rfl ?_
        refine jr.iload_n rfl rfl ?_
        refine jr.iload_n rfl rfl ?_
        refine jr.iconst rfl ?_
        refine jr.iadd rfl ?_
        refine jr_v rfl rfl (Or.inl rfl) rfl rfl (nlt rfl) rfl ⟨rfl, Nat.le_of_ble_eq_true rfl, Nat.le_of_ble_eq_true rfl⟩ rfl (jc.deep (r_one hI_M hH_M hS_M (Kp.rfl _) (by omega) (by omega)  (fun r4 z4 w4_0 => ?_)) (Nat.le_of_ble_eq_true rfl))
        refine jr.imul rfl ?_
        refine jr.bipush rfl (jbp _ (nlt rfl)) ?_
        refine jr.iadd rfl ?_
        refine jr.istore (ls' := [_, _, _, _, _, _]) rfl (nlt rfl) rfl ?_
        refine jr.iload_n rfl rfl ?_
        refine jr.iload rfl rfl ?_
        refine jr.iadd rfl ?_
        refine jr.iload rfl rfl ?_
        refine jr.icmp_le rfl rfl (by first | (refine rgb (by assumption) ?_; exact rfl) | omega) (by first | (refine rgb (by assumption) ?_; exact rfl) | omega) (fun h114 => ?_) (fun h114 => ?_)
        · refine jr.iload_n rfl rfl ?_
          refine jr.iconst rfl ?_
          refine jr.icmp_eq rfl rfl (by first | exact rgl rfl | omega) (rgl rfl) (fun h => absurd h (by decide)) (fun _ => ?_)
          refine jr.iload_n rfl rfl ?_
          refine jr.bipush rfl (jbp _ (nlt rfl)) ?_
          refine jr.icmp_ne rfl rfl (by first | exact rgl rfl | omega) (rgl rfl) (fun _ => ?_) (fun h => absurd (by decide) h)
          refine jr.iload_n rfl rfl ?_
          refine jr.iconst rfl ?_
          refine jr.icmp_eq rfl rfl (by first | exact rgl rfl | omega) (rgl rfl) (fun h => absurd h (by decide)) (fun _ => ?_)
          refine jr.iload_n rfl rfl ?_
          refine jr.iconst rfl ?_
          refine jr.icmp_ne rfl rfl (by first | exact rgl rfl | omega) (rgl rfl) (fun _ => ?_) (fun h => absurd (by decide) h)
          refine jr.iload_n rfl rfl ?_
          refine jr.bipush rfl (jbp _ (nlt rfl)) ?_
          refine jr.icmp_ne rfl rfl (by first | exact rgl rfl | omega) (rgl rfl) (fun _ => ?_) (fun h => absurd (by decide) h)
          refine jr.iconst rfl ?_
          refine jr.istore (ls' := [_, _, _, _, _, _, _]) rfl (nlt rfl) rfl ?_
          refine jr.iload_n rfl rfl ?_
          refine jr.iconst rfl ?_
          refine jr.icmp_ne rfl rfl (by first | exact rgl rfl | omega) (rgl rfl) (fun _ => ?_) (fun h => absurd (by decide) h)
          refine jr.iload rfl rfl ?_
          refine jr.iload_n rfl rfl ?_
          refine jr.isub rfl ?_
          refine jr.istore (ls' := [_, _, _, _, _, _, _, _]) rfl (nlt rfl) rfl ?_
          refine jr.iload rfl rfl ?_
          refine jr.iconst rfl ?_
          refine jr.icmp_eq rfl rfl (by first | exact rgl rfl | omega) (rgl rfl) (fun _ => ?_) (fun h => absurd (by decide) h)
          refine jr.iload rfl rfl ?_
          exact jr.ireturn rfl rfl rfl (q _ _ hI_M hH_M hS_M  (by omega) ⟨by omega, by have hn := e1; have hzK : hsZ (rf M x) (M 600 x) 4 a = 8 * hb (rf M x) (M 600 x) (a + 1) + 8 := rfl; have hbB : hb (rf M x) (M 600 x) (a + 1) = M 601 (400 * x + (a + 1)) := hb_i (by omega) (by omega); have e1 : hsF (rf M x) (M 600 x) 0 3 4 a = 0 := (by rw [msF, if_neg (by omega), if_neg (by omega), if_neg (by omega), if_neg (by omega), if_neg (by omega), if_neg (by omega)]); exact Or.inr ⟨e1, by omega, by omega, rfl, rfl, rfl⟩⟩ (by omega) (fun a i f598 => rfl) (fun i g10 g11 g12 => rfl))
        · refine jr.aload_n rfl rfl ?_
          refine jr.iconst rfl ?_
          refine jr.iload rfl rfl ?_
          refine jr.iload_n rfl rfl ?_
          refine jr_v rfl rfl (Or.inl rfl) rfl rfl (nlt rfl) rfl ⟨rfl, Nat.le_of_ble_eq_true rfl, Nat.le_of_ble_eq_true rfl⟩ rfl (jc.deep (r_finds_x hI_M hH_M hS_M  (by omega) (by omega) (by omega)  (fun M5 hI_M5 hH_M5 hS_M5  w5_0 w5_1 w5_2 => ?_)) (Nat.le_of_ble_eq_true rfl))
          refine jr.iconst rfl ?_
          exact jr.ireturn rfl rfl rfl (q _ _ hI_M5 hH_M5 hS_M5  (by first | exact rgq rfl | omega) ⟨by omega, by have hn := e1; have hzK : hsZ (rf M x) (M 600 x) 4 a = 8 * hb (rf M x) (M 600 x) (a + 1) + 8 := rfl; first | (have e1 : hsF (rf M x) (M 600 x) 0 3 4 a = 1 := (by rw [msF, if_neg (by omega), if_neg (by omega), if_pos (by omega)]); have e2 : hsW (rf M x) (M 600 x) 0 3 4 a = M 600 x := (by rw [msW, if_neg (by omega), if_neg (by omega), if_pos (by omega)]); exact Or.inl ⟨by omega, by omega, by omega, by omega, by omega⟩) | (have hbB : hb (rf M x) (M 600 x) (a + 1) = M 601 (400 * x + (a + 1)) := hb_i (by omega) (by omega); have e1 : hsF (rf M x) (M 600 x) 0 3 4 a = 1 := (by rw [msF, if_neg (by omega), if_neg (by omega), if_neg (by omega), if_neg (by omega), if_pos (by omega)]); have e2 : hsW (rf M x) (M 600 x) 0 3 4 a = M 600 x := (by rw [msW, if_neg (by omega), if_neg (by omega), if_neg (by omega), if_neg (by omega), if_pos (by omega)]); exact Or.inl ⟨by omega, by omega, by omega, by omega, by omega⟩)⟩ (by omega) (fun a i f598 => ((w5_1 a i f598).trans rfl)) (fun i g10 g11 g12 => ((w5_2 i g10 g11 g12).trans rfl)))
    · refine jr.aload_n rfl rfl ?_
      refine jr.iconst rfl ?_
      refine jr.iload rfl rfl ?_
      refine jr.iload_n rfl rfl ?_
      refine jr_v rfl rfl (Or.inl rfl) rfl rfl (nlt rfl) rfl ⟨rfl, Nat.le_of_ble_eq_true rfl, Nat.le_of_ble_eq_true rfl⟩ rfl (jc.deep (r_finds_x hI_M hH_M hS_M  (by omega) (by omega) (by omega)  (fun M6 hI_M6 hH_M6 hS_M6  w6_0 w6_1 w6_2 => ?_)) (Nat.le_of_ble_eq_true rfl))
      refine jr.iconst rfl ?_
      exact jr.ireturn rfl rfl rfl (q _ _ hI_M6 hH_M6 hS_M6  (by first | exact rgq rfl | omega) ⟨by omega, by have hn := e1; have e1 : hsF (rf M x) (M 600 x) 0 3 4 a = 1 := (by rw [msF, if_neg (by omega), if_neg (by omega), if_pos (by omega)]); have e2 : hsW (rf M x) (M 600 x) 0 3 4 a = M 600 x := (by rw [msW, if_neg (by omega), if_neg (by omega), if_pos (by omega)]); exact Or.inl ⟨by omega, by omega, by omega, by omega, by omega⟩⟩ (by omega) (fun a i f598 => ((w6_1 a i f598).trans rfl)) (fun i g10 g11 g12 => ((w6_2 i g10 g11 g12).trans rfl)))
  · have lk : lst 5 = 8 := rfl
    have lh : hls 5 = 2 := rfl
    have lr : lsr 5 = 8 := rfl
    refine jc_of (m := xm_262) rfl (Nat.le_of_ble_eq_true rfl) rfl ?_
    refine jr.aload_n rfl rfl ?_
    refine jr.getf (i := 3) (v := .ref 600) rfl rfl (nlt rfl) rfl (nlt rfl) rfl rfl rfl rfl ?_
    refine jr.iload_n rfl rfl ?_
    obtain ⟨v1, e1⟩ : ∃ z, M 600 x = z := ⟨_, rfl⟩
    have b1 : (-1) ≤ v1 ∧ v1 ≤ 400 := by rw [← e1]; exact (by have q := hI_M 600 x (Nat.le_of_ble_eq_true rfl); rw [xri_row rfl rfl] at q; exact q)
    refine jr.iald (i := x) (x := v1) rfl (nlt rfl) rfl (Nat.le_of_ble_eq_true rfl) (by omega) (by omega) e1 ?_
    refine jr.istore (ls' := [_, _, _, _, _]) rfl (nlt rfl) rfl ?_
    refine jr.iload_n rfl rfl ?_
    refine jr.iload rfl rfl ?_
    refine jr.icmp_lt rfl rfl (by first | (refine rgb (by assumption) ?_; exact rfl) | omega) (by first | (refine rgb (by assumption) ?_; exact rfl) | omega) (fun h11 => ?_) (fun h11 => ?_)
    · refine jr.iload_n rfl rfl ?_
      refine jr.iconst rfl ?_
      refine jr.icmp_ne rfl rfl (by first | exact rgl rfl | omega) (rgl rfl) (fun _ => ?_) (fun h => absurd (by decide) h)
      refine jr.iload_n rfl rfl ?_
      refine jr.iconst rfl ?_
      refine jr.icmp_ne rfl rfl (by first | exact rgl rfl | omega) (rgl rfl) (fun _ => ?_) (fun h => absurd (by decide) h)
      refine jr.iload_n rfl rfl ?_
      refine jr_s rfl rfl (Or.inl rfl) ⟨Nat.le_of_ble_eq_true rfl, Nat.le_of_ble_eq_true rfl⟩ rfl rfl (jc.deep (r_least_x hI_M hH_M hS_M  (by omega)  (fun r2 z2 w2_0 => ?_)) (Nat.le_of_ble_eq_true rfl))
      refine jr.istore (ls' := [_, _, _, _, _, _]) rfl (nlt rfl) rfl ?_
      refine jr.iload_n rfl rfl ?_
      refine jr.iconst rfl ?_
      refine jr.icmp_eq rfl rfl (by first | exact rgl rfl | omega) (rgl rfl) (fun h => absurd h (by decide)) (fun _ => ?_)
      refine jr.iload_n rfl rfl ?_
      refine jr.iconst rfl ?_
      refine jr.icmp_ne rfl rfl (by first | exact rgl rfl | omega) (rgl rfl) (fun h => absurd h (by decide)) (fun _ => ?_)
      refine jr.iload_n rfl rfl ?_
      refine jr.iconst rfl ?_
      refine jr.iadd rfl ?_
      refine jr.iload rfl rfl ?_
      refine jr.icmp_gt rfl rfl (by first | (refine rgb (by assumption) ?_; exact rfl) | omega) (by first | (refine rgb (by assumption) ?_; exact rfl) | omega) (fun h89 => ?_) (fun h89 => ?_)
      · refine jr.iload_n rfl rfl ?_
        refine jr.iload rfl rfl ?_
        refine jr.iadd rfl ?_
        refine jr.iload rfl rfl ?_
        refine jr.icmp_le rfl rfl (by first | (refine rgb (by assumption) ?_; exact rfl) | omega) (by first | (refine rgb (by assumption) ?_; exact rfl) | omega) (fun h114 => ?_) (fun h114 => ?_)
        · refine jr.iload_n rfl rfl ?_
          refine jr.iconst rfl ?_
          refine jr.icmp_eq rfl rfl (by first | exact rgl rfl | omega) (rgl rfl) (fun h => absurd h (by decide)) (fun _ => ?_)
          refine jr.iload_n rfl rfl ?_
          refine jr.bipush rfl (jbp _ (nlt rfl)) ?_
          refine jr.icmp_ne rfl rfl (by first | exact rgl rfl | omega) (rgl rfl) (fun _ => ?_) (fun h => absurd (by decide) h)
          refine jr.iload_n rfl rfl ?_
          refine jr.iconst rfl ?_
          refine jr.icmp_eq rfl rfl (by first | exact rgl rfl | omega) (rgl rfl) (fun h => absurd h (by decide)) (fun _ => ?_)
          refine jr.iload_n rfl rfl ?_
          refine jr.iconst rfl ?_
          refine jr.icmp_ne rfl rfl (by first | exact rgl rfl | omega) (rgl rfl) (fun _ => ?_) (fun h => absurd (by decide) h)
          refine jr.iload_n rfl rfl ?_
          refine jr.bipush rfl (jbp _ (nlt rfl)) ?_
          refine jr.icmp_ne rfl rfl (by first | exact rgl rfl | omega) (rgl rfl) (fun _ => ?_) (fun h => absurd (by decide) h)
          refine jr.iconst rfl ?_
          refine jr.istore (ls' := [_, _, _, _, _, _, _]) rfl (nlt rfl) rfl ?_
          refine jr.iload_n rfl rfl ?_
          refine jr.iconst rfl ?_
          refine jr.icmp_ne rfl rfl (by first | exact rgl rfl | omega) (rgl rfl) (fun _ => ?_) (fun h => absurd (by decide) h)
          refine jr.iload rfl rfl ?_
          refine jr.iload_n rfl rfl ?_
          refine jr.isub rfl ?_
          refine jr.istore (ls' := [_, _, _, _, _, _, _, _]) rfl (nlt rfl) rfl ?_
          refine jr.iload rfl rfl ?_
          refine jr.iconst rfl ?_
          refine jr.icmp_eq rfl rfl (by first | exact rgl rfl | omega) (rgl rfl) (fun _ => ?_) (fun h => absurd (by decide) h)
          refine jr.iload rfl rfl ?_
          exact jr.ireturn rfl rfl rfl (q _ _ hI_M hH_M hS_M  (by omega) ⟨by omega, by have hn := e1; have hzK : hsZ (rf M x) (M 600 x) 5 a = 8 * hb (rf M x) (M 600 x) (a + 1) + 8 := rfl; have hbB : hb (rf M x) (M 600 x) (a + 1) = M 601 (400 * x + (a + 1)) := hb_i (by omega) (by omega); have e1 : hsF (rf M x) (M 600 x) 0 3 5 a = 0 := (by rw [msF, if_neg (by omega), if_neg (by omega), if_neg (by omega), if_neg (by omega), if_neg (by omega), if_neg (by omega)]); exact Or.inr ⟨e1, by omega, by omega, rfl, rfl, rfl⟩⟩ (by omega) (fun a i f598 => rfl) (fun i g10 g11 g12 => rfl))
        · refine jr.aload_n rfl rfl ?_
          refine jr.iconst rfl ?_
          refine jr.iload rfl rfl ?_
          refine jr.iload_n rfl rfl ?_
          refine jr_v rfl rfl (Or.inl rfl) rfl rfl (nlt rfl) rfl ⟨rfl, Nat.le_of_ble_eq_true rfl, Nat.le_of_ble_eq_true rfl⟩ rfl (jc.deep (r_finds_x hI_M hH_M hS_M  (by omega) (by omega) (by omega)  (fun M3 hI_M3 hH_M3 hS_M3  w3_0 w3_1 w3_2 => ?_)) (Nat.le_of_ble_eq_true rfl))
          refine jr.iconst rfl ?_
          exact jr.ireturn rfl rfl rfl (q _ _ hI_M3 hH_M3 hS_M3  (by first | exact rgq rfl | omega) ⟨by omega, by have hn := e1; have hzK : hsZ (rf M x) (M 600 x) 5 a = 8 * hb (rf M x) (M 600 x) (a + 1) + 8 := rfl; first | (have e1 : hsF (rf M x) (M 600 x) 0 3 5 a = 1 := (by rw [msF, if_neg (by omega), if_neg (by omega), if_pos (by omega)]); have e2 : hsW (rf M x) (M 600 x) 0 3 5 a = M 600 x := (by rw [msW, if_neg (by omega), if_neg (by omega), if_pos (by omega)]); exact Or.inl ⟨by omega, by omega, by omega, by omega, by omega⟩) | (have hbB : hb (rf M x) (M 600 x) (a + 1) = M 601 (400 * x + (a + 1)) := hb_i (by omega) (by omega); have e1 : hsF (rf M x) (M 600 x) 0 3 5 a = 1 := (by rw [msF, if_neg (by omega), if_neg (by omega), if_neg (by omega), if_neg (by omega), if_pos (by omega)]); have e2 : hsW (rf M x) (M 600 x) 0 3 5 a = M 600 x := (by rw [msW, if_neg (by omega), if_neg (by omega), if_neg (by omega), if_neg (by omega), if_pos (by omega)]); exact Or.inl ⟨by omega, by omega, by omega, by omega, by omega⟩)⟩ (by omega) (fun a i f598 => ((w3_1 a i f598).trans rfl)) (fun i g10 g11 g12 => ((w3_2 i g10 g11 g12).trans rfl)))
      · refine jr.bipush rfl (jbp _ (nlt rfl)) ?_
        refine jr.aload_n rfl rfl ?_
        refine jr.iload_n rfl rfl ?_
        refine jr.iload_n rfl rfl ?_
        refine jr.iconst rfl ?_
        refine jr.iadd rfl ?_
        refine jr_v rfl rfl (Or.inl rfl) rfl rfl (nlt rfl) rfl ⟨rfl, Nat.le_of_ble_eq_true rfl, Nat.le_of_ble_eq_true rfl⟩ rfl (jc.deep (r_one hI_M hH_M hS_M (Kp.rfl _) (by omega) (by omega)  (fun r4 z4 w4_0 => ?_)) (Nat.le_of_ble_eq_true rfl))
        refine jr.imul rfl ?_
        refine jr.bipush rfl (jbp _ (nlt rfl)) ?_
        refine jr.iadd rfl ?_
        refine jr.istore (ls' := [_, _, _, _, _, _]) rfl (nlt rfl) rfl ?_
        refine jr.iload_n rfl rfl ?_
        refine jr.iload rfl rfl ?_
        refine jr.iadd rfl ?_
        refine jr.iload rfl rfl ?_
        refine jr.icmp_le rfl rfl (by first | (refine rgb (by assumption) ?_; exact rfl) | omega) (by first | (refine rgb (by assumption) ?_; exact rfl) | omega) (fun h114 => ?_) (fun h114 => ?_)
        · refine jr.iload_n rfl rfl ?_
          refine jr.iconst rfl ?_
          refine jr.icmp_eq rfl rfl (by first | exact rgl rfl | omega) (rgl rfl) (fun h => absurd h (by decide)) (fun _ => ?_)
          refine jr.iload_n rfl rfl ?_
          refine jr.bipush rfl (jbp _ (nlt rfl)) ?_
          refine jr.icmp_ne rfl rfl (by first | exact rgl rfl | omega) (rgl rfl) (fun _ => ?_) (fun h => absurd (by decide) h)
          refine jr.iload_n rfl rfl ?_
          refine jr.iconst rfl ?_
          refine jr.icmp_eq rfl rfl (by first | exact rgl rfl | omega) (rgl rfl) (fun h => absurd h (by decide)) (fun _ => ?_)
          refine jr.iload_n rfl rfl ?_
          refine jr.iconst rfl ?_
          refine jr.icmp_ne rfl rfl (by first | exact rgl rfl | omega) (rgl rfl) (fun _ => ?_) (fun h => absurd (by decide) h)
          refine jr.iload_n rfl rfl ?_
          refine jr.bipush rfl (jbp _ (nlt rfl)) ?_
          refine jr.icmp_ne rfl rfl (by first | exact rgl rfl | omega) (rgl rfl) (fun _ => ?_) (fun h => absurd (by decide) h)
          refine jr.iconst rfl ?_
          refine jr.istore (ls' := [_, _, _, _, _, _, _]) rfl (nlt rfl) rfl ?_
          refine jr.iload_n rfl rfl ?_
          refine jr.iconst rfl ?_
          refine jr.icmp_ne rfl rfl (by first | exact rgl rfl | omega) (rgl rfl) (fun _ => ?_) (fun h => absurd (by decide) h)
          refine jr.iload rfl rfl ?_
          refine jr.iload_n rfl rfl ?_
          refine jr.isub rfl ?_
          refine jr.istore (ls' := [_, _, _, _, _, _, _, _]) rfl (nlt rfl) rfl ?_
          refine jr.iload rfl rfl ?_
          refine jr.iconst rfl ?_
          refine jr.icmp_eq rfl rfl (by first | exact rgl rfl | omega) (rgl rfl) (fun _ => ?_) (fun h => absurd (by decide) h)
          refine jr.iload rfl rfl ?_
          exact jr.ireturn rfl rfl rfl (q _ _ hI_M hH_M hS_M  (by omega) ⟨by omega, by have hn := e1; have hzK : hsZ (rf M x) (M 600 x) 5 a = 8 * hb (rf M x) (M 600 x) (a + 1) + 8 := rfl; have hbB : hb (rf M x) (M 600 x) (a + 1) = M 601 (400 * x + (a + 1)) := hb_i (by omega) (by omega); have e1 : hsF (rf M x) (M 600 x) 0 3 5 a = 0 := (by rw [msF, if_neg (by omega), if_neg (by omega), if_neg (by omega), if_neg (by omega), if_neg (by omega), if_neg (by omega)]); exact Or.inr ⟨e1, by omega, by omega, rfl, rfl, rfl⟩⟩ (by omega) (fun a i f598 => rfl) (fun i g10 g11 g12 => rfl))
        · refine jr.aload_n rfl rfl ?_
          refine jr.iconst rfl ?_
          refine jr.iload rfl rfl ?_
          refine jr.iload_n rfl rfl ?_
          refine jr_v rfl rfl (Or.inl rfl) rfl rfl (nlt rfl) rfl ⟨rfl, Nat.le_of_ble_eq_true rfl, Nat.le_of_ble_eq_true rfl⟩ rfl (jc.deep (r_finds_x hI_M hH_M hS_M  (by omega) (by omega) (by omega)  (fun M5 hI_M5 hH_M5 hS_M5  w5_0 w5_1 w5_2 => ?_)) (Nat.le_of_ble_eq_true rfl))
          refine jr.iconst rfl ?_
          exact jr.ireturn rfl rfl rfl (q _ _ hI_M5 hH_M5 hS_M5  (by first | exact rgq rfl | omega) ⟨by omega, by have hn := e1; have hzK : hsZ (rf M x) (M 600 x) 5 a = 8 * hb (rf M x) (M 600 x) (a + 1) + 8 := rfl; first | (have e1 : hsF (rf M x) (M 600 x) 0 3 5 a = 1 := (by rw [msF, if_neg (by omega), if_neg (by omega), if_pos (by omega)]); have e2 : hsW (rf M x) (M 600 x) 0 3 5 a = M 600 x := (by rw [msW, if_neg (by omega), if_neg (by omega), if_pos (by omega)]); exact Or.inl ⟨by omega, by omega, by omega, by omega, by omega⟩) | (have hbB : hb (rf M x) (M 600 x) (a + 1) = M 601 (400 * x + (a + 1)) := hb_i (by omega) (by omega); have e1 : hsF (rf M x) (M 600 x) 0 3 5 a = 1 := (by rw [msF, if_neg (by omega), if_neg (by omega), if_neg (by omega), if_neg (by omega), if_pos (by omega)]); have e2 : hsW (rf M x) (M 600 x) 0 3 5 a = M 600 x := (by rw [msW, if_neg (by omega), if_neg (by omega), if_neg (by omega), if_neg (by omega), if_pos (by omega)]); exact Or.inl ⟨by omega, by omega, by omega, by omega, by omega⟩)⟩ (by omega) (fun a i f598 => ((w5_1 a i f598).trans rfl)) (fun i g10 g11 g12 => ((w5_2 i g10 g11 g12).trans rfl)))
    · refine jr.aload_n rfl rfl ?_
      refine jr.iconst rfl ?_
      refine jr.iload rfl rfl ?_
      refine jr.iload_n rfl rfl ?_
      refine jr_v rfl rfl (Or.inl rfl) rfl rfl (nlt rfl) rfl ⟨rfl, Nat.le_of_ble_eq_true rfl, Nat.le_of_ble_eq_true rfl⟩ rfl (jc.deep (r_finds_x hI_M hH_M hS_M  (by omega) (by omega) (by omega)  (fun M6 hI_M6 hH_M6 hS_M6  w6_0 w6_1 w6_2 => ?_)) (Nat.le_of_ble_eq_true rfl))
      refine jr.iconst rfl ?_
      exact jr.ireturn rfl rfl rfl (q _ _ hI_M6 hH_M6 hS_M6  (by first | exact rgq rfl | omega) ⟨by omega, by have hn := e1; have e1 : hsF (rf M x) (M 600 x) 0 3 5 a = 1 := (by rw [msF, if_neg (by omega), if_neg (by omega), if_pos (by omega)]); have e2 : hsW (rf M x) (M 600 x) 0 3 5 a = M 600 x := (by rw [msW, if_neg (by omega), if_neg (by omega), if_pos (by omega)]); exact Or.inl ⟨by omega, by omega, by omega, by omega, by omega⟩⟩ (by omega) (fun a i f598 => ((w6_1 a i f598).trans rfl)) (fun i g10 g11 g12 => ((w6_2 i g10 g11 g12).trans rfl)))
  · have lk : lst 6 = 8 := rfl
    have lh : hls 6 = 8 := rfl
    have lr : lsr 6 = 8 := rfl
    refine jc_of (m := xm_262) rfl (Nat.le_of_ble_eq_true rfl) rfl ?_
    refine jr.aload_n rfl rfl ?_
    refine jr.getf (i := 3) (v := .ref 600) rfl rfl (nlt rfl) rfl (nlt rfl) rfl rfl rfl rfl ?_
    refine jr.iload_n rfl rfl ?_
    obtain ⟨v1, e1⟩ : ∃ z, M 600 x = z := ⟨_, rfl⟩
    have b1 : (-1) ≤ v1 ∧ v1 ≤ 400 := by rw [← e1]; exact (by have q := hI_M 600 x (Nat.le_of_ble_eq_true rfl); rw [xri_row rfl rfl] at q; exact q)
    refine jr.iald (i := x) (x := v1) rfl (nlt rfl) rfl (Nat.le_of_ble_eq_true rfl) (by omega) (by omega) e1 ?_
    refine jr.istore (ls' := [_, _, _, _, _]) rfl (nlt rfl) rfl ?_
    refine jr.iload_n rfl rfl ?_
    refine jr.iload rfl rfl ?_
    refine jr.icmp_lt rfl rfl (by first | (refine rgb (by assumption) ?_; exact rfl) | omega) (by first | (refine rgb (by assumption) ?_; exact rfl) | omega) (fun h11 => ?_) (fun h11 => ?_)
    · refine jr.iload_n rfl rfl ?_
      refine jr.iconst rfl ?_
      refine jr.icmp_ne rfl rfl (by first | exact rgl rfl | omega) (rgl rfl) (fun _ => ?_) (fun h => absurd (by decide) h)
      refine jr.iload_n rfl rfl ?_
      refine jr.iconst rfl ?_
      refine jr.icmp_ne rfl rfl (by first | exact rgl rfl | omega) (rgl rfl) (fun _ => ?_) (fun h => absurd (by decide) h)
      refine jr.iload_n rfl rfl ?_
      refine jr_s rfl rfl (Or.inl rfl) ⟨Nat.le_of_ble_eq_true rfl, Nat.le_of_ble_eq_true rfl⟩ rfl rfl (jc.deep (r_least_x hI_M hH_M hS_M  (by omega)  (fun r2 z2 w2_0 => ?_)) (Nat.le_of_ble_eq_true rfl))
      refine jr.istore (ls' := [_, _, _, _, _, _]) rfl (nlt rfl) rfl ?_
      refine jr.iload_n rfl rfl ?_
      refine jr.iconst rfl ?_
      refine jr.icmp_eq rfl rfl (by first | exact rgl rfl | omega) (rgl rfl) (fun h => absurd h (by decide)) (fun _ => ?_)
      refine jr.iload_n rfl rfl ?_
      refine jr.iconst rfl ?_
      refine jr.icmp_ne rfl rfl (by first | exact rgl rfl | omega) (rgl rfl) (fun _ => ?_) (fun h => absurd (by decide) h)
      refine jr.iload_n rfl rfl ?_
      refine jr.iload rfl rfl ?_
      refine jr.iadd rfl ?_
      refine jr.iload rfl rfl ?_
      refine jr.icmp_le rfl rfl (by first | (refine rgb (by assumption) ?_; exact rfl) | omega) (by first | (refine rgb (by assumption) ?_; exact rfl) | omega) (fun h114 => ?_) (fun h114 => ?_)
      · refine jr.iload_n rfl rfl ?_
        refine jr.iconst rfl ?_
        refine jr.icmp_eq rfl rfl (by first | exact rgl rfl | omega) (rgl rfl) (fun h => absurd h (by decide)) (fun _ => ?_)
        refine jr.iload_n rfl rfl ?_
        refine jr.bipush rfl (jbp _ (nlt rfl)) ?_
        refine jr.icmp_ne rfl rfl (by first | exact rgl rfl | omega) (rgl rfl) (fun _ => ?_) (fun h => absurd (by decide) h)
        refine jr.iload_n rfl rfl ?_
        refine jr.iconst rfl ?_
        refine jr.icmp_eq rfl rfl (by first | exact rgl rfl | omega) (rgl rfl) (fun h => absurd h (by decide)) (fun _ => ?_)
        refine jr.iload_n rfl rfl ?_
        refine jr.iconst rfl ?_
        refine jr.icmp_ne rfl rfl (by first | exact rgl rfl | omega) (rgl rfl) (fun _ => ?_) (fun h => absurd (by decide) h)
        refine jr.iload_n rfl rfl ?_
        refine jr.bipush rfl (jbp _ (nlt rfl)) ?_
        refine jr.icmp_ne rfl rfl (by first | exact rgl rfl | omega) (rgl rfl) (fun _ => ?_) (fun h => absurd (by decide) h)
        refine jr.iconst rfl ?_
        refine jr.istore (ls' := [_, _, _, _, _, _, _]) rfl (nlt rfl) rfl ?_
        refine jr.iload_n rfl rfl ?_
        refine jr.iconst rfl ?_
        refine jr.icmp_ne rfl rfl (by first | exact rgl rfl | omega) (rgl rfl) (fun _ => ?_) (fun h => absurd (by decide) h)
        refine jr.iload rfl rfl ?_
        refine jr.iload_n rfl rfl ?_
        refine jr.isub rfl ?_
        refine jr.istore (ls' := [_, _, _, _, _, _, _, _]) rfl (nlt rfl) rfl ?_
        refine jr.iload rfl rfl ?_
        refine jr.iconst rfl ?_
        refine jr.icmp_eq rfl rfl (by first | exact rgl rfl | omega) (rgl rfl) (fun _ => ?_) (fun h => absurd (by decide) h)
        refine jr.iload rfl rfl ?_
        exact jr.ireturn rfl rfl rfl (q _ _ hI_M hH_M hS_M  (by omega) ⟨by omega, by have hn := e1; have hzK : hsZ (rf M x) (M 600 x) 6 a = 8 := rfl; have e1 : hsF (rf M x) (M 600 x) 0 3 6 a = 0 := (by rw [msF, if_neg (by omega), if_neg (by omega), if_neg (by omega), if_neg (by omega), if_neg (by omega), if_neg (by omega)]); exact Or.inr ⟨e1, by omega, by omega, rfl, rfl, rfl⟩⟩ (by omega) (fun a i f598 => rfl) (fun i g10 g11 g12 => rfl))
      · refine jr.aload_n rfl rfl ?_
        refine jr.iconst rfl ?_
        refine jr.iload rfl rfl ?_
        refine jr.iload_n rfl rfl ?_
        refine jr_v rfl rfl (Or.inl rfl) rfl rfl (nlt rfl) rfl ⟨rfl, Nat.le_of_ble_eq_true rfl, Nat.le_of_ble_eq_true rfl⟩ rfl (jc.deep (r_finds_x hI_M hH_M hS_M  (by omega) (by omega) (by omega)  (fun M3 hI_M3 hH_M3 hS_M3  w3_0 w3_1 w3_2 => ?_)) (Nat.le_of_ble_eq_true rfl))
        refine jr.iconst rfl ?_
        exact jr.ireturn rfl rfl rfl (q _ _ hI_M3 hH_M3 hS_M3  (by first | exact rgq rfl | omega) ⟨by omega, by have hn := e1; have hzK : hsZ (rf M x) (M 600 x) 6 a = 8 := rfl; have e1 : hsF (rf M x) (M 600 x) 0 3 6 a = 1 := (by rw [msF, if_neg (by omega), if_neg (by omega), if_pos (by omega)]); have e2 : hsW (rf M x) (M 600 x) 0 3 6 a = M 600 x := (by rw [msW, if_neg (by omega), if_neg (by omega), if_pos (by omega)]); exact Or.inl ⟨by omega, by omega, by omega, by omega, by omega⟩⟩ (by omega) (fun a i f598 => ((w3_1 a i f598).trans rfl)) (fun i g10 g11 g12 => ((w3_2 i g10 g11 g12).trans rfl)))
    · refine jr.aload_n rfl rfl ?_
      refine jr.iconst rfl ?_
      refine jr.iload rfl rfl ?_
      refine jr.iload_n rfl rfl ?_
      refine jr_v rfl rfl (Or.inl rfl) rfl rfl (nlt rfl) rfl ⟨rfl, Nat.le_of_ble_eq_true rfl, Nat.le_of_ble_eq_true rfl⟩ rfl (jc.deep (r_finds_x hI_M hH_M hS_M  (by omega) (by omega) (by omega)  (fun M4 hI_M4 hH_M4 hS_M4  w4_0 w4_1 w4_2 => ?_)) (Nat.le_of_ble_eq_true rfl))
      refine jr.iconst rfl ?_
      exact jr.ireturn rfl rfl rfl (q _ _ hI_M4 hH_M4 hS_M4  (by first | exact rgq rfl | omega) ⟨by omega, by have hn := e1; have e1 : hsF (rf M x) (M 600 x) 0 3 6 a = 1 := (by rw [msF, if_neg (by omega), if_neg (by omega), if_pos (by omega)]); have e2 : hsW (rf M x) (M 600 x) 0 3 6 a = M 600 x := (by rw [msW, if_neg (by omega), if_neg (by omega), if_pos (by omega)]); exact Or.inl ⟨by omega, by omega, by omega, by omega, by omega⟩⟩ (by omega) (fun a i f598 => ((w4_1 a i f598).trans rfl)) (fun i g10 g11 g12 => ((w4_2 i g10 g11 g12).trans rfl)))
  · have lk : lst 7 = 8 := rfl
    have lh : hls 7 = 8 := rfl
    have lr : lsr 7 = 8 := rfl
    refine jc_of (m := xm_262) rfl (Nat.le_of_ble_eq_true rfl) rfl ?_
    refine jr.aload_n rfl rfl ?_
    refine jr.getf (i := 3) (v := .ref 600) rfl rfl (nlt rfl) rfl (nlt rfl) rfl rfl rfl rfl ?_
    refine jr.iload_n rfl rfl ?_
    obtain ⟨v1, e1⟩ : ∃ z, M 600 x = z := ⟨_, rfl⟩
    have b1 : (-1) ≤ v1 ∧ v1 ≤ 400 := by rw [← e1]; exact (by have q := hI_M 600 x (Nat.le_of_ble_eq_true rfl); rw [xri_row rfl rfl] at q; exact q)
    refine jr.iald (i := x) (x := v1) rfl (nlt rfl) rfl (Nat.le_of_ble_eq_true rfl) (by omega) (by omega) e1 ?_
    refine jr.istore (ls' := [_, _, _, _, _]) rfl (nlt rfl) rfl ?_
    refine jr.iload_n rfl rfl ?_
    refine jr.iload rfl rfl ?_
    refine jr.icmp_lt rfl rfl (by first | (refine rgb (by assumption) ?_; exact rfl) | omega) (by first | (refine rgb (by assumption) ?_; exact rfl) | omega) (fun h11 => ?_) (fun h11 => ?_)
    · refine jr.iload_n rfl rfl ?_
      refine jr.iconst rfl ?_
      refine jr.icmp_ne rfl rfl (by first | exact rgl rfl | omega) (rgl rfl) (fun _ => ?_) (fun h => absurd (by decide) h)
      refine jr.iload_n rfl rfl ?_
      refine jr.iconst rfl ?_
      refine jr.icmp_ne rfl rfl (by first | exact rgl rfl | omega) (rgl rfl) (fun _ => ?_) (fun h => absurd (by decide) h)
      refine jr.iload_n rfl rfl ?_
      refine jr_s rfl rfl (Or.inl rfl) ⟨Nat.le_of_ble_eq_true rfl, Nat.le_of_ble_eq_true rfl⟩ rfl rfl (jc.deep (r_least_x hI_M hH_M hS_M  (by omega)  (fun r2 z2 w2_0 => ?_)) (Nat.le_of_ble_eq_true rfl))
      refine jr.istore (ls' := [_, _, _, _, _, _]) rfl (nlt rfl) rfl ?_
      refine jr.iload_n rfl rfl ?_
      refine jr.iconst rfl ?_
      refine jr.icmp_eq rfl rfl (by first | exact rgl rfl | omega) (rgl rfl) (fun h => absurd h (by decide)) (fun _ => ?_)
      refine jr.iload_n rfl rfl ?_
      refine jr.iconst rfl ?_
      refine jr.icmp_ne rfl rfl (by first | exact rgl rfl | omega) (rgl rfl) (fun _ => ?_) (fun h => absurd (by decide) h)
      refine jr.iload_n rfl rfl ?_
      refine jr.iload rfl rfl ?_
      refine jr.iadd rfl ?_
      refine jr.iload rfl rfl ?_
      refine jr.icmp_le rfl rfl (by first | (refine rgb (by assumption) ?_; exact rfl) | omega) (by first | (refine rgb (by assumption) ?_; exact rfl) | omega) (fun h114 => ?_) (fun h114 => ?_)
      · refine jr.iload_n rfl rfl ?_
        refine jr.iconst rfl ?_
        refine jr.icmp_eq rfl rfl (by first | exact rgl rfl | omega) (rgl rfl) (fun h => absurd h (by decide)) (fun _ => ?_)
        refine jr.iload_n rfl rfl ?_
        refine jr.bipush rfl (jbp _ (nlt rfl)) ?_
        refine jr.icmp_ne rfl rfl (by first | exact rgl rfl | omega) (rgl rfl) (fun _ => ?_) (fun h => absurd (by decide) h)
        refine jr.iload_n rfl rfl ?_
        refine jr.iconst rfl ?_
        refine jr.icmp_eq rfl rfl (by first | exact rgl rfl | omega) (rgl rfl) (fun h => absurd h (by decide)) (fun _ => ?_)
        refine jr.iload_n rfl rfl ?_
        refine jr.iconst rfl ?_
        refine jr.icmp_ne rfl rfl (by first | exact rgl rfl | omega) (rgl rfl) (fun _ => ?_) (fun h => absurd (by decide) h)
        refine jr.iload_n rfl rfl ?_
        refine jr.bipush rfl (jbp _ (nlt rfl)) ?_
        refine jr.icmp_ne rfl rfl (by first | exact rgl rfl | omega) (rgl rfl) (fun _ => ?_) (fun h => absurd (by decide) h)
        refine jr.iconst rfl ?_
        refine jr.istore (ls' := [_, _, _, _, _, _, _]) rfl (nlt rfl) rfl ?_
        refine jr.iload_n rfl rfl ?_
        refine jr.iconst rfl ?_
        refine jr.icmp_ne rfl rfl (by first | exact rgl rfl | omega) (rgl rfl) (fun _ => ?_) (fun h => absurd (by decide) h)
        refine jr.iload rfl rfl ?_
        refine jr.iload_n rfl rfl ?_
        refine jr.isub rfl ?_
        refine jr.istore (ls' := [_, _, _, _, _, _, _, _]) rfl (nlt rfl) rfl ?_
        refine jr.iload rfl rfl ?_
        refine jr.iconst rfl ?_
        refine jr.icmp_eq rfl rfl (by first | exact rgl rfl | omega) (rgl rfl) (fun _ => ?_) (fun h => absurd (by decide) h)
        refine jr.iload rfl rfl ?_
        exact jr.ireturn rfl rfl rfl (q _ _ hI_M hH_M hS_M  (by omega) ⟨by omega, by have hn := e1; have hzK : hsZ (rf M x) (M 600 x) 7 a = 8 := rfl; have e1 : hsF (rf M x) (M 600 x) 0 3 7 a = 0 := (by rw [msF, if_neg (by omega), if_neg (by omega), if_neg (by omega), if_neg (by omega), if_neg (by omega), if_neg (by omega)]); exact Or.inr ⟨e1, by omega, by omega, rfl, rfl, rfl⟩⟩ (by omega) (fun a i f598 => rfl) (fun i g10 g11 g12 => rfl))
      · refine jr.aload_n rfl rfl ?_
        refine jr.iconst rfl ?_
        refine jr.iload rfl rfl ?_
        refine jr.iload_n rfl rfl ?_
        refine jr_v rfl rfl (Or.inl rfl) rfl rfl (nlt rfl) rfl ⟨rfl, Nat.le_of_ble_eq_true rfl, Nat.le_of_ble_eq_true rfl⟩ rfl (jc.deep (r_finds_x hI_M hH_M hS_M  (by omega) (by omega) (by omega)  (fun M3 hI_M3 hH_M3 hS_M3  w3_0 w3_1 w3_2 => ?_)) (Nat.le_of_ble_eq_true rfl))
        refine jr.iconst rfl ?_
        exact jr.ireturn rfl rfl rfl (q _ _ hI_M3 hH_M3 hS_M3  (by first | exact rgq rfl | omega) ⟨by omega, by have hn := e1; have hzK : hsZ (rf M x) (M 600 x) 7 a = 8 := rfl; have e1 : hsF (rf M x) (M 600 x) 0 3 7 a = 1 := (by rw [msF, if_neg (by omega), if_neg (by omega), if_pos (by omega)]); have e2 : hsW (rf M x) (M 600 x) 0 3 7 a = M 600 x := (by rw [msW, if_neg (by omega), if_neg (by omega), if_pos (by omega)]); exact Or.inl ⟨by omega, by omega, by omega, by omega, by omega⟩⟩ (by omega) (fun a i f598 => ((w3_1 a i f598).trans rfl)) (fun i g10 g11 g12 => ((w3_2 i g10 g11 g12).trans rfl)))
    · refine jr.aload_n rfl rfl ?_
      refine jr.iconst rfl ?_
      refine jr.iload rfl rfl ?_
      refine jr.iload_n rfl rfl ?_
      refine jr_v rfl rfl (Or.inl rfl) rfl rfl (nlt rfl) rfl ⟨rfl, Nat.le_of_ble_eq_true rfl, Nat.le_of_ble_eq_true rfl⟩ rfl (jc.deep (r_finds_x hI_M hH_M hS_M  (by omega) (by omega) (by omega)  (fun M4 hI_M4 hH_M4 hS_M4  w4_0 w4_1 w4_2 => ?_)) (Nat.le_of_ble_eq_true rfl))
      refine jr.iconst rfl ?_
      exact jr.ireturn rfl rfl rfl (q _ _ hI_M4 hH_M4 hS_M4  (by first | exact rgq rfl | omega) ⟨by omega, by have hn := e1; have e1 : hsF (rf M x) (M 600 x) 0 3 7 a = 1 := (by rw [msF, if_neg (by omega), if_neg (by omega), if_pos (by omega)]); have e2 : hsW (rf M x) (M 600 x) 0 3 7 a = M 600 x := (by rw [msW, if_neg (by omega), if_neg (by omega), if_pos (by omega)]); exact Or.inl ⟨by omega, by omega, by omega, by omega, by omega⟩⟩ (by omega) (fun a i f598 => ((w4_1 a i f598).trans rfl)) (fun i g10 g11 g12 => ((w4_2 i g10 g11 g12).trans rfl)))
  · have lk : lst 8 = 20 := rfl
    have lh : hls 8 = 20 := rfl
    have lr : lsr 8 = 20 := rfl
    refine jc_of (m := xm_262) rfl (Nat.le_of_ble_eq_true rfl) rfl ?_
    refine jr.aload_n rfl rfl ?_
    refine jr.getf (i := 3) (v := .ref 600) rfl rfl (nlt rfl) rfl (nlt rfl) rfl rfl rfl rfl ?_
    refine jr.iload_n rfl rfl ?_
    obtain ⟨v1, e1⟩ : ∃ z, M 600 x = z := ⟨_, rfl⟩
    have b1 : (-1) ≤ v1 ∧ v1 ≤ 400 := by rw [← e1]; exact (by have q := hI_M 600 x (Nat.le_of_ble_eq_true rfl); rw [xri_row rfl rfl] at q; exact q)
    refine jr.iald (i := x) (x := v1) rfl (nlt rfl) rfl (Nat.le_of_ble_eq_true rfl) (by omega) (by omega) e1 ?_
    refine jr.istore (ls' := [_, _, _, _, _]) rfl (nlt rfl) rfl ?_
    refine jr.iload_n rfl rfl ?_
    refine jr.iload rfl rfl ?_
    refine jr.icmp_lt rfl rfl (by first | (refine rgb (by assumption) ?_; exact rfl) | omega) (by first | (refine rgb (by assumption) ?_; exact rfl) | omega) (fun h11 => ?_) (fun h11 => ?_)
    · refine jr.iload_n rfl rfl ?_
      refine jr.iconst rfl ?_
      refine jr.icmp_ne rfl rfl (by first | exact rgl rfl | omega) (rgl rfl) (fun _ => ?_) (fun h => absurd (by decide) h)
      refine jr.iload_n rfl rfl ?_
      refine jr.iconst rfl ?_
      refine jr.icmp_ne rfl rfl (by first | exact rgl rfl | omega) (rgl rfl) (fun _ => ?_) (fun h => absurd (by decide) h)
      refine jr.iload_n rfl rfl ?_
      refine jr_s rfl rfl (Or.inl rfl) ⟨Nat.le_of_ble_eq_true rfl, Nat.le_of_ble_eq_true rfl⟩ rfl rfl (jc.deep (r_least_x hI_M hH_M hS_M  (by omega)  (fun r2 z2 w2_0 => ?_)) (Nat.le_of_ble_eq_true rfl))
      refine jr.istore (ls' := [_, _, _, _, _, _]) rfl (nlt rfl) rfl ?_
      refine jr.iload_n rfl rfl ?_
      refine jr.iconst rfl ?_
      refine jr.icmp_eq rfl rfl (by first | exact rgl rfl | omega) (rgl rfl) (fun h => absurd h (by decide)) (fun _ => ?_)
      refine jr.iload_n rfl rfl ?_
      refine jr.iconst rfl ?_
      refine jr.icmp_ne rfl rfl (by first | exact rgl rfl | omega) (rgl rfl) (fun _ => ?_) (fun h => absurd (by decide) h)
      refine jr.iload_n rfl rfl ?_
      refine jr.iload rfl rfl ?_
      refine jr.iadd rfl ?_
      refine jr.iload rfl rfl ?_
      refine jr.icmp_le rfl rfl (by first | (refine rgb (by assumption) ?_; exact rfl) | omega) (by first | (refine rgb (by assumption) ?_; exact rfl) | omega) (fun h114 => ?_) (fun h114 => ?_)
      · refine jr.iload_n rfl rfl ?_
        refine jr.iconst rfl ?_
        refine jr.icmp_eq rfl rfl (by first | exact rgl rfl | omega) (rgl rfl) (fun h => absurd h (by decide)) (fun _ => ?_)
        refine jr.iload_n rfl rfl ?_
        refine jr.bipush rfl (jbp _ (nlt rfl)) ?_
        refine jr.icmp_ne rfl rfl (by first | exact rgl rfl | omega) (rgl rfl) (fun h => absurd h (by decide)) (fun _ => ?_)
        refine jr.iload_n rfl rfl ?_
        refine jr.iconst rfl ?_
        refine jr.icmp_ne rfl rfl (by first | exact rgl rfl | omega) (rgl rfl) (fun _ => ?_) (fun h => absurd (by decide) h)
        refine jr.iload_n rfl rfl ?_
        refine jr.bipush rfl (jbp _ (nlt rfl)) ?_
        refine jr.iadd rfl ?_
        refine jr.istore (ls' := [_, _, _, _, _, _, _]) rfl (nlt rfl) rfl ?_
        refine jr.iload_n rfl rfl ?_
        refine jr.iconst rfl ?_
        refine jr.icmp_ne rfl rfl (by first | exact rgl rfl | omega) (rgl rfl) (fun _ => ?_) (fun h => absurd (by decide) h)
        refine jr.aload_n rfl rfl ?_
        refine jr.iload_n rfl rfl ?_
        refine jr.iload rfl rfl ?_
        refine jr_v rfl rfl (Or.inl rfl) rfl rfl (nlt rfl) rfl ⟨rfl, Nat.le_of_ble_eq_true rfl, Nat.le_of_ble_eq_true rfl⟩ rfl (jc.deep (r_one hI_M hH_M hS_M (Kp.rfl _) (by omega) (by omega)  (fun r3 z3 w3_0 => ?_)) (Nat.le_of_ble_eq_true rfl))
        refine jr.iconst rfl ?_
        refine jr.ishr rfl ?_
        have b4 : j_shr r3 4 = r3 / 16 := j_shr_ex 4 (by decide) (by omega) (by omega)
        generalize j_shr r3 4 = v4 at b4 ⊢
        refine jr.istore (ls' := [_, _, _, _, _, _, _, _]) rfl (nlt rfl) rfl ?_
        refine jr.iload rfl rfl ?_
        refine jr.iconst rfl ?_
        refine jr.icmp_ge rfl rfl (by first | (refine rgb (by assumption) ?_; exact rfl) | omega) (rgl rfl) (fun h185 => ?_) (fun h185 => ?_)
        · refine jr.iconst rfl ?_
          refine jr.iload rfl rfl ?_
          refine jr.imul rfl ?_
          refine jr.istore (ls' := [_, _, _, _, _, _, _, _]) rfl (nlt rfl) rfl ?_
          refine jr.iload_n rfl rfl ?_
          refine jr.iload rfl rfl ?_
          refine jr.iadd rfl ?_
          refine jr.iload rfl rfl ?_
          refine jr.icmp_le rfl rfl (by first | (refine rgb (by assumption) ?_; exact rfl) | omega) (by first | (refine rgb (by assumption) ?_; exact rfl) | omega) (fun h210 => ?_) (fun h210 => ?_)
          · refine jr.iload_n rfl rfl ?_
            refine jr.iconst rfl ?_
            refine jr.icmp_eq rfl rfl (by first | exact rgl rfl | omega) (rgl rfl) (fun h => absurd h (by decide)) (fun _ => ?_)
            refine jr.iload_n rfl rfl ?_
            refine jr.iconst rfl ?_
            refine jr.icmp_ne rfl rfl (by first | exact rgl rfl | omega) (rgl rfl) (fun _ => ?_) (fun h => absurd (by decide) h)
            refine jr.iload_n rfl rfl ?_
            refine jr.bipush rfl (jbp _ (nlt rfl)) ?_
            refine jr.icmp_ne rfl rfl (by first | exact rgl rfl | omega) (rgl rfl) (fun _ => ?_) (fun h => absurd (by decide) h)
            refine jr.iconst rfl ?_
            refine jr.istore (ls' := [_, _, _, _, _, _, _, _]) rfl (nlt rfl) rfl ?_
            refine jr.iload_n rfl rfl ?_
            refine jr.iconst rfl ?_
            refine jr.icmp_ne rfl rfl (by first | exact rgl rfl | omega) (rgl rfl) (fun _ => ?_) (fun h => absurd (by decide) h)
            refine jr.iload rfl rfl ?_
            refine jr.iload_n rfl rfl ?_
            refine jr.isub rfl ?_
            refine jr.istore (ls' := [_, _, _, _, _, _, _, _]) rfl (nlt rfl) rfl ?_
            refine jr.iload rfl rfl ?_
            refine jr.iconst rfl ?_
            refine jr.icmp_eq rfl rfl (by first | exact rgl rfl | omega) (rgl rfl) (fun _ => ?_) (fun h => absurd (by decide) h)
            refine jr.iload rfl rfl ?_
            exact jr.ireturn rfl rfl rfl (q _ _ hI_M hH_M hS_M  (by omega) ⟨by omega, by have hn := e1; have hzK : hsZ (rf M x) (M 600 x) 8 a = 4 * (hb (rf M x) (M 600 x) (a + 12) / 16) := rfl; have hbC : hb (rf M x) (M 600 x) (a + 12) = M 601 (400 * x + (a + 12)) := hb_i (by omega) (by omega); have e1 : hsF (rf M x) (M 600 x) 0 3 8 a = 0 := (by rw [msF, if_neg (by omega), if_neg (by omega), if_neg (by omega), if_neg (by omega), if_neg (by omega), if_neg (by omega)]); exact Or.inr ⟨e1, by omega, by omega, rfl, rfl, rfl⟩⟩ (by omega) (fun a i f598 => rfl) (fun i g10 g11 g12 => rfl))
          · refine jr.aload_n rfl rfl ?_
            refine jr.iconst rfl ?_
            refine jr.iload rfl rfl ?_
            refine jr.iload_n rfl rfl ?_
            refine jr_v rfl rfl (Or.inl rfl) rfl rfl (nlt rfl) rfl ⟨rfl, Nat.le_of_ble_eq_true rfl, Nat.le_of_ble_eq_true rfl⟩ rfl (jc.deep (r_finds_x hI_M hH_M hS_M  (by omega) (by omega) (by omega)  (fun M5 hI_M5 hH_M5 hS_M5  w5_0 w5_1 w5_2 => ?_)) (Nat.le_of_ble_eq_true rfl))
            refine jr.iconst rfl ?_
            exact jr.ireturn rfl rfl rfl (q _ _ hI_M5 hH_M5 hS_M5  (by first | exact rgq rfl | omega) ⟨by omega, by have hn := e1; have hzK : hsZ (rf M x) (M 600 x) 8 a = 4 * (hb (rf M x) (M 600 x) (a + 12) / 16) := rfl; have hbC : hb (rf M x) (M 600 x) (a + 12) = M 601 (400 * x + (a + 12)) := hb_i (by omega) (by omega); have e1 : hsF (rf M x) (M 600 x) 0 3 8 a = 1 := (by rw [msF, if_neg (by omega), if_neg (by omega), if_neg (by omega), if_neg (by omega), if_pos (by omega)]); have e2 : hsW (rf M x) (M 600 x) 0 3 8 a = M 600 x := (by rw [msW, if_neg (by omega), if_neg (by omega), if_neg (by omega), if_neg (by omega), if_pos (by omega)]); exact Or.inl ⟨by omega, by omega, by omega, by omega, by omega⟩⟩ (by omega) (fun a i f598 => ((w5_1 a i f598).trans rfl)) (fun i g10 g11 g12 => ((w5_2 i g10 g11 g12).trans rfl)))
        · refine jr.aload_n rfl rfl ?_
          refine jr.iconst rfl ?_
          refine jr.iload rfl rfl ?_
          refine jr.iload_n rfl rfl ?_
          refine jr_v rfl rfl (Or.inl rfl) rfl rfl (nlt rfl) rfl ⟨rfl, Nat.le_of_ble_eq_true rfl, Nat.le_of_ble_eq_true rfl⟩ rfl (jc.deep (r_finds_x hI_M hH_M hS_M  (by omega) (by omega) (by omega)  (fun M6 hI_M6 hH_M6 hS_M6  w6_0 w6_1 w6_2 => ?_)) (Nat.le_of_ble_eq_true rfl))
          refine jr.iconst rfl ?_
          exact jr.ireturn rfl rfl rfl (q _ _ hI_M6 hH_M6 hS_M6  (by first | exact rgq rfl | omega) ⟨by omega, by have hn := e1; have hzK : hsZ (rf M x) (M 600 x) 8 a = 4 * (hb (rf M x) (M 600 x) (a + 12) / 16) := rfl; have hbC : hb (rf M x) (M 600 x) (a + 12) = M 601 (400 * x + (a + 12)) := hb_i (by omega) (by omega); have e1 : hsF (rf M x) (M 600 x) 0 3 8 a = 4 := (by rw [msF, if_neg (by omega), if_neg (by omega), if_neg (by omega), if_pos (by omega)]); have e2 : hsW (rf M x) (M 600 x) 0 3 8 a = a + 12 := (by rw [msW, if_neg (by omega), if_neg (by omega), if_neg (by omega), if_pos (by omega)]; exact if_neg (by decide)); exact Or.inl ⟨by omega, by omega, by omega, by omega, by omega⟩⟩ (by omega) (fun a i f598 => ((w6_1 a i f598).trans rfl)) (fun i g10 g11 g12 => ((w6_2 i g10 g11 g12).trans rfl)))
      · refine jr.aload_n rfl rfl ?_
        refine jr.iconst rfl ?_
        refine jr.iload rfl rfl ?_
        refine jr.iload_n rfl rfl ?_
        refine jr_v rfl rfl (Or.inl rfl) rfl rfl (nlt rfl) rfl ⟨rfl, Nat.le_of_ble_eq_true rfl, Nat.le_of_ble_eq_true rfl⟩ rfl (jc.deep (r_finds_x hI_M hH_M hS_M  (by omega) (by omega) (by omega)  (fun M7 hI_M7 hH_M7 hS_M7  w7_0 w7_1 w7_2 => ?_)) (Nat.le_of_ble_eq_true rfl))
        refine jr.iconst rfl ?_
        exact jr.ireturn rfl rfl rfl (q _ _ hI_M7 hH_M7 hS_M7  (by first | exact rgq rfl | omega) ⟨by omega, by have hn := e1; have hzK : hsZ (rf M x) (M 600 x) 8 a = 4 * (hb (rf M x) (M 600 x) (a + 12) / 16) := rfl; have e1 : hsF (rf M x) (M 600 x) 0 3 8 a = 1 := (by rw [msF, if_neg (by omega), if_neg (by omega), if_pos (by omega)]); have e2 : hsW (rf M x) (M 600 x) 0 3 8 a = M 600 x := (by rw [msW, if_neg (by omega), if_neg (by omega), if_pos (by omega)]); exact Or.inl ⟨by omega, by omega, by omega, by omega, by omega⟩⟩ (by omega) (fun a i f598 => ((w7_1 a i f598).trans rfl)) (fun i g10 g11 g12 => ((w7_2 i g10 g11 g12).trans rfl)))
    · refine jr.aload_n rfl rfl ?_
      refine jr.iconst rfl ?_
      refine jr.iload rfl rfl ?_
      refine jr.iload_n rfl rfl ?_
      refine jr_v rfl rfl (Or.inl rfl) rfl rfl (nlt rfl) rfl ⟨rfl, Nat.le_of_ble_eq_true rfl, Nat.le_of_ble_eq_true rfl⟩ rfl (jc.deep (r_finds_x hI_M hH_M hS_M  (by omega) (by omega) (by omega)  (fun M8 hI_M8 hH_M8 hS_M8  w8_0 w8_1 w8_2 => ?_)) (Nat.le_of_ble_eq_true rfl))
      refine jr.iconst rfl ?_
      exact jr.ireturn rfl rfl rfl (q _ _ hI_M8 hH_M8 hS_M8  (by first | exact rgq rfl | omega) ⟨by omega, by have hn := e1; have e1 : hsF (rf M x) (M 600 x) 0 3 8 a = 1 := (by rw [msF, if_neg (by omega), if_neg (by omega), if_pos (by omega)]); have e2 : hsW (rf M x) (M 600 x) 0 3 8 a = M 600 x := (by rw [msW, if_neg (by omega), if_neg (by omega), if_pos (by omega)]); exact Or.inl ⟨by omega, by omega, by omega, by omega, by omega⟩⟩ (by omega) (fun a i f598 => ((w8_1 a i f598).trans rfl)) (fun i g10 g11 g12 => ((w8_2 i g10 g11 g12).trans rfl)))
  · have lk : lst 9 = 8 := rfl
    have lh : hls 9 = 8 := rfl
    have lr : lsr 9 = 8 := rfl
    refine jc_of (m := xm_262) rfl (Nat.le_of_ble_eq_true rfl) rfl ?_
    refine jr.aload_n rfl rfl ?_
    refine jr.getf (i := 3) (v := .ref 600) rfl rfl (nlt rfl) rfl (nlt rfl) rfl rfl rfl rfl ?_
    refine jr.iload_n rfl rfl ?_
    obtain ⟨v1, e1⟩ : ∃ z, M 600 x = z := ⟨_, rfl⟩
    have b1 : (-1) ≤ v1 ∧ v1 ≤ 400 := by rw [← e1]; exact (by have q := hI_M 600 x (Nat.le_of_ble_eq_true rfl); rw [xri_row rfl rfl] at q; exact q)
    refine jr.iald (i := x) (x := v1) rfl (nlt rfl) rfl (Nat.le_of_ble_eq_true rfl) (by omega) (by omega) e1 ?_
    refine jr.istore (ls' := [_, _, _, _, _]) rfl (nlt rfl) rfl ?_
    refine jr.iload_n rfl rfl ?_
    refine jr.iload rfl rfl ?_
    refine jr.icmp_lt rfl rfl (by first | (refine rgb (by assumption) ?_; exact rfl) | omega) (by first | (refine rgb (by assumption) ?_; exact rfl) | omega) (fun h11 => ?_) (fun h11 => ?_)
    · refine jr.iload_n rfl rfl ?_
      refine jr.iconst rfl ?_
      refine jr.icmp_ne rfl rfl (by first | exact rgl rfl | omega) (rgl rfl) (fun _ => ?_) (fun h => absurd (by decide) h)
      refine jr.iload_n rfl rfl ?_
      refine jr.iconst rfl ?_
      refine jr.icmp_ne rfl rfl (by first | exact rgl rfl | omega) (rgl rfl) (fun _ => ?_) (fun h => absurd (by decide) h)
      refine jr.iload_n rfl rfl ?_
      refine jr_s rfl rfl (Or.inl rfl) ⟨Nat.le_of_ble_eq_true rfl, Nat.le_of_ble_eq_true rfl⟩ rfl rfl (jc.deep (r_least_x hI_M hH_M hS_M  (by omega)  (fun r2 z2 w2_0 => ?_)) (Nat.le_of_ble_eq_true rfl))
      refine jr.istore (ls' := [_, _, _, _, _, _]) rfl (nlt rfl) rfl ?_
      refine jr.iload_n rfl rfl ?_
      refine jr.iconst rfl ?_
      refine jr.icmp_eq rfl rfl (by first | exact rgl rfl | omega) (rgl rfl) (fun h => absurd h (by decide)) (fun _ => ?_)
      refine jr.iload_n rfl rfl ?_
      refine jr.iconst rfl ?_
      refine jr.icmp_ne rfl rfl (by first | exact rgl rfl | omega) (rgl rfl) (fun _ => ?_) (fun h => absurd (by decide) h)
      refine jr.iload_n rfl rfl ?_
      refine jr.iload rfl rfl ?_
      refine jr.iadd rfl ?_
      refine jr.iload rfl rfl ?_
      refine jr.icmp_le rfl rfl (by first | (refine rgb (by assumption) ?_; exact rfl) | omega) (by first | (refine rgb (by assumption) ?_; exact rfl) | omega) (fun h114 => ?_) (fun h114 => ?_)
      · refine jr.iload_n rfl rfl ?_
        refine jr.iconst rfl ?_
        refine jr.icmp_eq rfl rfl (by first | exact rgl rfl | omega) (rgl rfl) (fun h => absurd h (by decide)) (fun _ => ?_)
        refine jr.iload_n rfl rfl ?_
        refine jr.bipush rfl (jbp _ (nlt rfl)) ?_
        refine jr.icmp_ne rfl rfl (by first | exact rgl rfl | omega) (rgl rfl) (fun _ => ?_) (fun h => absurd (by decide) h)
        refine jr.iload_n rfl rfl ?_
        refine jr.iconst rfl ?_
        refine jr.icmp_eq rfl rfl (by first | exact rgl rfl | omega) (rgl rfl) (fun h => absurd h (by decide)) (fun _ => ?_)
        refine jr.iload_n rfl rfl ?_
        refine jr.iconst rfl ?_
        refine jr.icmp_ne rfl rfl (by first | exact rgl rfl | omega) (rgl rfl) (fun _ => ?_) (fun h => absurd (by decide) h)
        refine jr.iload_n rfl rfl ?_
        refine jr.bipush rfl (jbp _ (nlt rfl)) ?_
        refine jr.icmp_ne rfl rfl (by first | exact rgl rfl | omega) (rgl rfl) (fun h => absurd h (by decide)) (fun _ => ?_)
        refine jr.iload_n rfl rfl ?_
        refine jr.iconst rfl ?_
        refine jr.iadd rfl ?_
        refine jr.goto rfl rfl ?_
        refine jr.istore (ls' := [_, _, _, _, _, _, _]) rfl (nlt rfl) rfl ?_
        refine jr.iload_n rfl rfl ?_
        refine jr.iconst rfl ?_
        refine jr.icmp_ne rfl rfl (by first | exact rgl rfl | omega) (rgl rfl) (fun _ => ?_) (fun h => absurd (by decide) h)
        refine jr.iload rfl rfl ?_
        refine jr.iload_n rfl rfl ?_
        refine jr.isub rfl ?_
        refine jr.istore (ls' := [_, _, _, _, _, _, _, _]) rfl (nlt rfl) rfl ?_
        refine jr.iload rfl rfl ?_
        refine jr.iconst rfl ?_
        refine jr.icmp_eq rfl rfl (by first | (refine rgb (by assumption) ?_; exact rfl) | omega) (rgl rfl) (fun h278 => ?_) (fun h278 => ?_)
        · exact absurd h278 (by omega)
        · refine jr.aload_n rfl rfl ?_
          refine jr.iload_n rfl rfl ?_
          refine jr.iload rfl rfl ?_
          refine jr_v rfl rfl (Or.inl rfl) rfl rfl (nlt rfl) rfl ⟨rfl, Nat.le_of_ble_eq_true rfl, Nat.le_of_ble_eq_true rfl⟩ rfl (jc.deep (r_two_x hI_M hH_M hS_M  (by omega) (by omega)  (fun r3 z3 w3_0 => ?_)) (Nat.le_of_ble_eq_true rfl))
          refine jr.iload rfl rfl ?_
          refine jr.icmp_eq rfl rfl (by first | (refine rgb (by assumption) ?_; exact rfl) | omega) (by first | (refine rgb (by assumption) ?_; exact rfl) | omega) (fun h290 => ?_) (fun h290 => ?_)
          · refine jr.iload rfl rfl ?_
            exact jr.ireturn rfl rfl rfl (q _ _ hI_M hH_M hS_M  (by omega) ⟨by omega, by have hn := e1; have hzK : hsZ (rf M x) (M 600 x) 9 a = 8 := rfl; have e1 : hsF (rf M x) (M 600 x) 0 3 9 a = 0 := (by rw [msF, if_neg (by omega), if_neg (by omega), if_neg (by omega), if_neg (by omega), if_neg (by omega), if_neg (by omega)]); exact Or.inr ⟨e1, by omega, by omega, rfl, rfl, rfl⟩⟩ (by omega) (fun a i f598 => rfl) (fun i g10 g11 g12 => rfl))
          · refine jr.aload_n rfl rfl ?_
            refine jr.iconst rfl ?_
            refine jr.iload rfl rfl ?_
            refine jr.iload_n rfl rfl ?_
            refine jr_v rfl rfl (Or.inl rfl) rfl rfl (nlt rfl) rfl ⟨rfl, Nat.le_of_ble_eq_true rfl, Nat.le_of_ble_eq_true rfl⟩ rfl (jc.deep (r_finds_x hI_M hH_M hS_M  (by omega) (by omega) (by omega)  (fun M4 hI_M4 hH_M4 hS_M4  w4_0 w4_1 w4_2 => ?_)) (Nat.le_of_ble_eq_true rfl))
            refine jr.iconst rfl ?_
            exact jr.ireturn rfl rfl rfl (q _ _ hI_M4 hH_M4 hS_M4  (by first | exact rgq rfl | omega) ⟨by omega, by have hn := e1; have hzK : hsZ (rf M x) (M 600 x) 9 a = 8 := rfl; have e1 : hsF (rf M x) (M 600 x) 0 3 9 a = 5 := (by rw [msF, if_neg (by omega), if_neg (by omega), if_neg (by omega), if_neg (by omega), if_neg (by omega), if_pos (by omega)]); have e2 : hsW (rf M x) (M 600 x) 0 3 9 a = a + 4 := (by rw [msW, if_neg (by omega), if_neg (by omega), if_neg (by omega), if_neg (by omega), if_neg (by omega)]; exact if_pos rfl); exact Or.inl ⟨by omega, by omega, by omega, by omega, by omega⟩⟩ (by omega) (fun a i f598 => ((w4_1 a i f598).trans rfl)) (fun i g10 g11 g12 => ((w4_2 i g10 g11 g12).trans rfl)))
      · refine jr.aload_n rfl rfl ?_
        refine jr.iconst rfl ?_
        refine jr.iload rfl rfl ?_
        refine jr.iload_n rfl rfl ?_
        refine jr_v rfl rfl (Or.inl rfl) rfl rfl (nlt rfl) rfl ⟨rfl, Nat.le_of_ble_eq_true rfl, Nat.le_of_ble_eq_true rfl⟩ rfl (jc.deep (r_finds_x hI_M hH_M hS_M  (by omega) (by omega) (by omega)  (fun M5 hI_M5 hH_M5 hS_M5  w5_0 w5_1 w5_2 => ?_)) (Nat.le_of_ble_eq_true rfl))
        refine jr.iconst rfl ?_
        exact jr.ireturn rfl rfl rfl (q _ _ hI_M5 hH_M5 hS_M5  (by first | exact rgq rfl | omega) ⟨by omega, by have hn := e1; have hzK : hsZ (rf M x) (M 600 x) 9 a = 8 := rfl; have e1 : hsF (rf M x) (M 600 x) 0 3 9 a = 1 := (by rw [msF, if_neg (by omega), if_neg (by omega), if_pos (by omega)]); have e2 : hsW (rf M x) (M 600 x) 0 3 9 a = M 600 x := (by rw [msW, if_neg (by omega), if_neg (by omega), if_pos (by omega)]); exact Or.inl ⟨by omega, by omega, by omega, by omega, by omega⟩⟩ (by omega) (fun a i f598 => ((w5_1 a i f598).trans rfl)) (fun i g10 g11 g12 => ((w5_2 i g10 g11 g12).trans rfl)))
    · refine jr.aload_n rfl rfl ?_
      refine jr.iconst rfl ?_
      refine jr.iload rfl rfl ?_
      refine jr.iload_n rfl rfl ?_
      refine jr_v rfl rfl (Or.inl rfl) rfl rfl (nlt rfl) rfl ⟨rfl, Nat.le_of_ble_eq_true rfl, Nat.le_of_ble_eq_true rfl⟩ rfl (jc.deep (r_finds_x hI_M hH_M hS_M  (by omega) (by omega) (by omega)  (fun M6 hI_M6 hH_M6 hS_M6  w6_0 w6_1 w6_2 => ?_)) (Nat.le_of_ble_eq_true rfl))
      refine jr.iconst rfl ?_
      exact jr.ireturn rfl rfl rfl (q _ _ hI_M6 hH_M6 hS_M6  (by first | exact rgq rfl | omega) ⟨by omega, by have hn := e1; have e1 : hsF (rf M x) (M 600 x) 0 3 9 a = 1 := (by rw [msF, if_neg (by omega), if_neg (by omega), if_pos (by omega)]); have e2 : hsW (rf M x) (M 600 x) 0 3 9 a = M 600 x := (by rw [msW, if_neg (by omega), if_neg (by omega), if_pos (by omega)]); exact Or.inl ⟨by omega, by omega, by omega, by omega, by omega⟩⟩ (by omega) (fun a i f598 => ((w6_1 a i f598).trans rfl)) (fun i g10 g11 g12 => ((w6_2 i g10 g11 g12).trans rfl)))
  · have lk : lst 10 = 4 := rfl
    have lh : hls 10 = 4 := rfl
    have lr : lsr 10 = 4 := rfl
    refine jc_of (m := xm_262) rfl (Nat.le_of_ble_eq_true rfl) rfl ?_
    refine jr.aload_n rfl rfl ?_
    refine jr.getf (i := 3) (v := .ref 600) rfl rfl (nlt rfl) rfl (nlt rfl) rfl rfl rfl rfl ?_
    refine jr.iload_n rfl rfl ?_
    obtain ⟨v1, e1⟩ : ∃ z, M 600 x = z := ⟨_, rfl⟩
    have b1 : (-1) ≤ v1 ∧ v1 ≤ 400 := by rw [← e1]; exact (by have q := hI_M 600 x (Nat.le_of_ble_eq_true rfl); rw [xri_row rfl rfl] at q; exact q)
    refine jr.iald (i := x) (x := v1) rfl (nlt rfl) rfl (Nat.le_of_ble_eq_true rfl) (by omega) (by omega) e1 ?_
    refine jr.istore (ls' := [_, _, _, _, _]) rfl (nlt rfl) rfl ?_
    refine jr.iload_n rfl rfl ?_
    refine jr.iload rfl rfl ?_
    refine jr.icmp_lt rfl rfl (by first | (refine rgb (by assumption) ?_; exact rfl) | omega) (by first | (refine rgb (by assumption) ?_; exact rfl) | omega) (fun h11 => ?_) (fun h11 => ?_)
    · refine jr.iload_n rfl rfl ?_
      refine jr.iconst rfl ?_
      refine jr.icmp_ne rfl rfl (by first | exact rgl rfl | omega) (rgl rfl) (fun _ => ?_) (fun h => absurd (by decide) h)
      refine jr.iload_n rfl rfl ?_
      refine jr.iconst rfl ?_
      refine jr.icmp_ne rfl rfl (by first | exact rgl rfl | omega) (rgl rfl) (fun _ => ?_) (fun h => absurd (by decide) h)
      refine jr.iload_n rfl rfl ?_
      refine jr_s rfl rfl (Or.inl rfl) ⟨Nat.le_of_ble_eq_true rfl, Nat.le_of_ble_eq_true rfl⟩ rfl rfl (jc.deep (r_least_x hI_M hH_M hS_M  (by omega)  (fun r2 z2 w2_0 => ?_)) (Nat.le_of_ble_eq_true rfl))
      refine jr.istore (ls' := [_, _, _, _, _, _]) rfl (nlt rfl) rfl ?_
      refine jr.iload_n rfl rfl ?_
      refine jr.iconst rfl ?_
      refine jr.icmp_eq rfl rfl (by first | exact rgl rfl | omega) (rgl rfl) (fun h => absurd h (by decide)) (fun _ => ?_)
      refine jr.iload_n rfl rfl ?_
      refine jr.iconst rfl ?_
      refine jr.icmp_ne rfl rfl (by first | exact rgl rfl | omega) (rgl rfl) (fun _ => ?_) (fun h => absurd (by decide) h)
      refine jr.iload_n rfl rfl ?_
      refine jr.iload rfl rfl ?_
      refine jr.iadd rfl ?_
      refine jr.iload rfl rfl ?_
      refine jr.icmp_le rfl rfl (by first | (refine rgb (by assumption) ?_; exact rfl) | omega) (by first | (refine rgb (by assumption) ?_; exact rfl) | omega) (fun h114 => ?_) (fun h114 => ?_)
      · refine jr.iload_n rfl rfl ?_
        refine jr.iconst rfl ?_
        refine jr.icmp_eq rfl rfl (by first | exact rgl rfl | omega) (rgl rfl) (fun h => absurd h (by decide)) (fun _ => ?_)
        refine jr.iload_n rfl rfl ?_
        refine jr.bipush rfl (jbp _ (nlt rfl)) ?_
        refine jr.icmp_ne rfl rfl (by first | exact rgl rfl | omega) (rgl rfl) (fun _ => ?_) (fun h => absurd (by decide) h)
        refine jr.iload_n rfl rfl ?_
        refine jr.iconst rfl ?_
        refine jr.icmp_eq rfl rfl (by first | exact rgl rfl | omega) (rgl rfl) (fun h => absurd h (by decide)) (fun _ => ?_)
        refine jr.iload_n rfl rfl ?_
        refine jr.iconst rfl ?_
        refine jr.icmp_ne rfl rfl (by first | exact rgl rfl | omega) (rgl rfl) (fun _ => ?_) (fun h => absurd (by decide) h)
        refine jr.iload_n rfl rfl ?_
        refine jr.bipush rfl (jbp _ (nlt rfl)) ?_
        refine jr.icmp_ne rfl rfl (by first | exact rgl rfl | omega) (rgl rfl) (fun _ => ?_) (fun h => absurd (by decide) h)
        refine jr.iconst rfl ?_
        refine jr.istore (ls' := [_, _, _, _, _, _, _]) rfl (nlt rfl) rfl ?_
        refine jr.iload_n rfl rfl ?_
        refine jr.iconst rfl ?_
        refine jr.icmp_ne rfl rfl (by first | exact rgl rfl | omega) (rgl rfl) (fun _ => ?_) (fun h => absurd (by decide) h)
        refine jr.iload rfl rfl ?_
        refine jr.iload_n rfl rfl ?_
        refine jr.isub rfl ?_
        refine jr.istore (ls' := [_, _, _, _, _, _, _, _]) rfl (nlt rfl) rfl ?_
        refine jr.iload rfl rfl ?_
        refine jr.iconst rfl ?_
        refine jr.icmp_eq rfl rfl (by first | exact rgl rfl | omega) (rgl rfl) (fun _ => ?_) (fun h => absurd (by decide) h)
        refine jr.iload rfl rfl ?_
        exact jr.ireturn rfl rfl rfl (q _ _ hI_M hH_M hS_M  (by omega) ⟨by omega, by have hn := e1; have hzK : hsZ (rf M x) (M 600 x) 10 a = 4 := rfl; have e1 : hsF (rf M x) (M 600 x) 0 3 10 a = 0 := (by rw [msF, if_neg (by omega), if_neg (by omega), if_neg (by omega), if_neg (by omega), if_neg (by omega), if_neg (by omega)]); exact Or.inr ⟨e1, by omega, by omega, rfl, rfl, rfl⟩⟩ (by omega) (fun a i f598 => rfl) (fun i g10 g11 g12 => rfl))
      · refine jr.aload_n rfl rfl ?_
        refine jr.iconst rfl ?_
        refine jr.iload rfl rfl ?_
        refine jr.iload_n rfl rfl ?_
        refine jr_v rfl rfl (Or.inl rfl) rfl rfl (nlt rfl) rfl ⟨rfl, Nat.le_of_ble_eq_true rfl, Nat.le_of_ble_eq_true rfl⟩ rfl (jc.deep (r_finds_x hI_M hH_M hS_M  (by omega) (by omega) (by omega)  (fun M3 hI_M3 hH_M3 hS_M3  w3_0 w3_1 w3_2 => ?_)) (Nat.le_of_ble_eq_true rfl))
        refine jr.iconst rfl ?_
        exact jr.ireturn rfl rfl rfl (q _ _ hI_M3 hH_M3 hS_M3  (by first | exact rgq rfl | omega) ⟨by omega, by have hn := e1; have hzK : hsZ (rf M x) (M 600 x) 10 a = 4 := rfl; have e1 : hsF (rf M x) (M 600 x) 0 3 10 a = 1 := (by rw [msF, if_neg (by omega), if_neg (by omega), if_pos (by omega)]); have e2 : hsW (rf M x) (M 600 x) 0 3 10 a = M 600 x := (by rw [msW, if_neg (by omega), if_neg (by omega), if_pos (by omega)]); exact Or.inl ⟨by omega, by omega, by omega, by omega, by omega⟩⟩ (by omega) (fun a i f598 => ((w3_1 a i f598).trans rfl)) (fun i g10 g11 g12 => ((w3_2 i g10 g11 g12).trans rfl)))
    · refine jr.aload_n rfl rfl ?_
      refine jr.iconst rfl ?_
      refine jr.iload rfl rfl ?_
      refine jr.iload_n rfl rfl ?_
      refine jr_v rfl rfl (Or.inl rfl) rfl rfl (nlt rfl) rfl ⟨rfl, Nat.le_of_ble_eq_true rfl, Nat.le_of_ble_eq_true rfl⟩ rfl (jc.deep (r_finds_x hI_M hH_M hS_M  (by omega) (by omega) (by omega)  (fun M4 hI_M4 hH_M4 hS_M4  w4_0 w4_1 w4_2 => ?_)) (Nat.le_of_ble_eq_true rfl))
      refine jr.iconst rfl ?_
      exact jr.ireturn rfl rfl rfl (q _ _ hI_M4 hH_M4 hS_M4  (by first | exact rgq rfl | omega) ⟨by omega, by have hn := e1; have e1 : hsF (rf M x) (M 600 x) 0 3 10 a = 1 := (by rw [msF, if_neg (by omega), if_neg (by omega), if_pos (by omega)]); have e2 : hsW (rf M x) (M 600 x) 0 3 10 a = M 600 x := (by rw [msW, if_neg (by omega), if_neg (by omega), if_pos (by omega)]); exact Or.inl ⟨by omega, by omega, by omega, by omega, by omega⟩⟩ (by omega) (fun a i f598 => ((w4_1 a i f598).trans rfl)) (fun i g10 g11 g12 => ((w4_2 i g10 g11 g12).trans rfl)))
theorem r_behind_x {A : Nat → Option (Nat × (Nat → Int32))} {Q : Option Value → jm → Prop} {M : jm} (hI_M : RI M) (hH_M : RH M) (hS_M : RF M) {x : Int} (h_x : 0 ≤ x ∧ x ≤ 23) {k : Int} (h_k : 0 ≤ k ∧ k ≤ 10) {a : Int} (h_a : 0 ≤ a ∧ a ≤ 400) (p0 : a + hls k ≤ M 600 x) (q : ∀ (r : Int), 0 ≤ r ∧ r ≤ 11 → r = hsN (rf M x) (M 600 x) k a (a + 8) → Q (some (.int (Int32.ofInt r))) M) : jc A 3 265 [.ref (598), .int (Int32.ofInt (x)), .int (Int32.ofInt (k)), .int (Int32.ofInt (a))] M Q := by
  have nb : (-1 : Int) ≤ M 600 x ∧ M 600 x ≤ 400 := (by have q := hI_M 600 x (Nat.le_of_ble_eq_true rfl); rw [xri_row rfl rfl] at q; exact q)
  rcases (show k = 0 ∨ k = 1 ∨ k = 2 ∨ k = 3 ∨ k = 4 ∨ k = 5 ∨ k = 6 ∨ k = 7 ∨ k = 8 ∨ k = 9 ∨ k = 10 by omega) with rfl | rfl | rfl | rfl | rfl | rfl | rfl | rfl | rfl | rfl | rfl
  · have lk : lst 0 = 4 := rfl
    have lh : hls 0 = 4 := rfl
    have lr : lsr 0 = 4 := rfl
    refine jc_of (m := xm_265) rfl (Nat.le_of_ble_eq_true rfl) rfl ?_
    refine jr.iload_n rfl rfl ?_
    refine jr.tsw_k 0 rfl rfl rfl ?_
    refine jr.aload_n rfl rfl ?_
    refine jr.iload_n rfl rfl ?_
    refine jr.iload_n rfl rfl ?_
    refine jr.iconst rfl ?_
    refine jr.iadd rfl ?_
    refine jr_v rfl rfl (Or.inl rfl) rfl rfl (nlt rfl) rfl ⟨rfl, Nat.le_of_ble_eq_true rfl, Nat.le_of_ble_eq_true rfl⟩ rfl (jc.deep (r_two_x hI_M hH_M hS_M  (by omega) (by omega)  (fun r1 z1 w1_0 => ?_)) (Nat.le_of_ble_eq_true rfl))
    refine jr_s rfl rfl (Or.inl rfl) ⟨Nat.le_of_ble_eq_true rfl, Nat.le_of_ble_eq_true rfl⟩ rfl rfl (jc.deep (r_byKind_x hI_M hH_M hS_M  (by omega)  (fun r2 z2 w2_0 => ?_)) (Nat.le_of_ble_eq_true rfl))
    exact jr.ireturn rfl rfl rfl (q _ (by omega) (by simp only [hsN, Int.reduceEq, reduceIte, or_false, false_or, or_true, true_or, or_self]; rw [← w1_0]; exact w2_0))
  · have lk : lst 1 = 4 := rfl
    have lh : hls 1 = 4 := rfl
    have lr : lsr 1 = 4 := rfl
    refine jc_of (m := xm_265) rfl (Nat.le_of_ble_eq_true rfl) rfl ?_
    refine jr.iload_n rfl rfl ?_
    refine jr.tsw_k 1 rfl rfl rfl ?_
    refine jr.aload_n rfl rfl ?_
    refine jr.iload_n rfl rfl ?_
    refine jr.iload_n rfl rfl ?_
    refine jr.iconst rfl ?_
    refine jr.iadd rfl ?_
    refine jr_v rfl rfl (Or.inl rfl) rfl rfl (nlt rfl) rfl ⟨rfl, Nat.le_of_ble_eq_true rfl, Nat.le_of_ble_eq_true rfl⟩ rfl (jc.deep (r_two_x hI_M hH_M hS_M  (by omega) (by omega)  (fun r1 z1 w1_0 => ?_)) (Nat.le_of_ble_eq_true rfl))
    refine jr_s rfl rfl (Or.inl rfl) ⟨Nat.le_of_ble_eq_true rfl, Nat.le_of_ble_eq_true rfl⟩ rfl rfl (jc.deep (r_byKind_x hI_M hH_M hS_M  (by omega)  (fun r2 z2 w2_0 => ?_)) (Nat.le_of_ble_eq_true rfl))
    exact jr.ireturn rfl rfl rfl (q _ (by omega) (by simp only [hsN, Int.reduceEq, reduceIte, or_false, false_or, or_true, true_or, or_self]; rw [← w1_0]; exact w2_0))
  · have lk : lst 2 = 20 := rfl
    have lh : hls 2 = 20 := rfl
    have lr : lsr 2 = 20 := rfl
    refine jc_of (m := xm_265) rfl (Nat.le_of_ble_eq_true rfl) rfl ?_
    refine jr.iload_n rfl rfl ?_
    refine jr.tsw_k 2 rfl rfl rfl ?_
    refine jr.aload_n rfl rfl ?_
    refine jr.iload_n rfl rfl ?_
    refine jr.iload_n rfl rfl ?_
    refine jr.bipush rfl (jbp _ (nlt rfl)) ?_
    refine jr.iadd rfl ?_
    refine jr_v rfl rfl (Or.inl rfl) rfl rfl (nlt rfl) rfl ⟨rfl, Nat.le_of_ble_eq_true rfl, Nat.le_of_ble_eq_true rfl⟩ rfl (jc.deep (r_two_x hI_M hH_M hS_M  (by omega) (by omega)  (fun r1 z1 w1_0 => ?_)) (Nat.le_of_ble_eq_true rfl))
    refine jr.sipush rfl (by decide) ?_
    refine jr.iand rfl ?_
    have b2 : j_and r1 8191 = r1 % 8192 := j_and_m 13 (by decide) _
    generalize j_and r1 8191 = v2 at b2 ⊢
    refine jr.if_le rfl rfl (by first | (refine rgb (by assumption) ?_; exact rfl) | omega) (fun h85 => ?_) (fun h85 => ?_)
    · refine jr.aload_n rfl rfl ?_
      refine jr.iload_n rfl rfl ?_
      refine jr.iload_n rfl rfl ?_
      refine jr.bipush rfl (jbp _ (nlt rfl)) ?_
      refine jr.iadd rfl ?_
      refine jr_v rfl rfl (Or.inl rfl) rfl rfl (nlt rfl) rfl ⟨rfl, Nat.le_of_ble_eq_true rfl, Nat.le_of_ble_eq_true rfl⟩ rfl (jc.deep (r_one hI_M hH_M hS_M (Kp.rfl _) (by omega) (by omega)  (fun r3 z3 w3_0 => ?_)) (Nat.le_of_ble_eq_true rfl))
      refine jr.iconst rfl ?_
      refine jr_s rfl rfl (Or.inl rfl) ⟨Nat.le_of_ble_eq_true rfl, Nat.le_of_ble_eq_true rfl⟩ rfl rfl (jc.deep (r_byNext_x hI_M hH_M hS_M  (by omega) (by omega)  (fun r4 z4 w4_0 => ?_)) (Nat.le_of_ble_eq_true rfl))
      exact jr.ireturn rfl rfl rfl (q _ (by omega) (by simp only [hsN, Int.reduceEq, reduceIte, or_false, false_or, or_true, true_or, or_self]; rw [if_neg (by omega), hb_i (by omega) (by omega)]; unfold rf; rw [← w3_0]; exact w4_0))
    · refine jr.bipush rfl (jbp _ (nlt rfl)) ?_
      refine jr.goto rfl rfl ?_
      exact jr.ireturn rfl rfl rfl (q _ (by first | exact rgq rfl | omega) (by simp only [hsN, Int.reduceEq, reduceIte, or_false, false_or, or_true, true_or, or_self]; rw [if_pos (by omega)]))
  · have lk : lst 3 = 24 := rfl
    have lh : hls 3 = 24 := rfl
    have lr : lsr 3 = 24 := rfl
    refine jc_of (m := xm_265) rfl (Nat.le_of_ble_eq_true rfl) rfl ?_
    refine jr.iload_n rfl rfl ?_
    refine jr.tsw_k 3 rfl rfl rfl ?_
    refine jr.aload_n rfl rfl ?_
    refine jr.iload_n rfl rfl ?_
    refine jr.iload_n rfl rfl ?_
    refine jr.iconst rfl ?_
    refine jr.iadd rfl ?_
    refine jr_v rfl rfl (Or.inl rfl) rfl rfl (nlt rfl) rfl ⟨rfl, Nat.le_of_ble_eq_true rfl, Nat.le_of_ble_eq_true rfl⟩ rfl (jc.deep (r_one hI_M hH_M hS_M (Kp.rfl _) (by omega) (by omega)  (fun r1 z1 w1_0 => ?_)) (Nat.le_of_ble_eq_true rfl))
    refine jr.iconst rfl ?_
    refine jr_s rfl rfl (Or.inl rfl) ⟨Nat.le_of_ble_eq_true rfl, Nat.le_of_ble_eq_true rfl⟩ rfl rfl (jc.deep (r_byNext_x hI_M hH_M hS_M  (by omega) (by omega)  (fun r2 z2 w2_0 => ?_)) (Nat.le_of_ble_eq_true rfl))
    exact jr.ireturn rfl rfl rfl (q _ (by omega) (by simp only [hsN, Int.reduceEq, reduceIte, or_false, false_or, or_true, true_or, or_self]; rw [hb_i (by omega) (by omega)]; unfold rf; rw [← w1_0]; exact w2_0))
  · have lk : lst 4 = 8 := rfl
    have lh : hls 4 = 2 := rfl
    have lr : lsr 4 = 8 := rfl
    refine jc_of (m := xm_265) rfl (Nat.le_of_ble_eq_true rfl) rfl ?_
    refine jr.iload_n rfl rfl ?_
    refine jr.tsw_k 4 rfl rfl rfl ?_
    refine jr.aload_n rfl rfl ?_
    refine jr.iload_n rfl rfl ?_
    refine jr.iload_n rfl rfl ?_
    refine jr_v rfl rfl (Or.inl rfl) rfl rfl (nlt rfl) rfl ⟨rfl, Nat.le_of_ble_eq_true rfl, Nat.le_of_ble_eq_true rfl⟩ rfl (jc.deep (r_one hI_M hH_M hS_M (Kp.rfl _) (by omega) (by omega)  (fun r1 z1 w1_0 => ?_)) (Nat.le_of_ble_eq_true rfl))
    refine jr.iconst rfl ?_
    refine jr_s rfl rfl (Or.inl rfl) ⟨Nat.le_of_ble_eq_true rfl, Nat.le_of_ble_eq_true rfl⟩ rfl rfl (jc.deep (r_byNext_x hI_M hH_M hS_M  (by omega) (by omega)  (fun r2 z2 w2_0 => ?_)) (Nat.le_of_ble_eq_true rfl))
    exact jr.ireturn rfl rfl rfl (q _ (by omega) (by simp only [hsN, Int.reduceEq, reduceIte, or_false, false_or, or_true, true_or, or_self]; rw [hb_i (by omega) (by omega)]; unfold rf; rw [← w1_0]; exact w2_0))
  · have lk : lst 5 = 8 := rfl
    have lh : hls 5 = 2 := rfl
    have lr : lsr 5 = 8 := rfl
    refine jc_of (m := xm_265) rfl (Nat.le_of_ble_eq_true rfl) rfl ?_
    refine jr.iload_n rfl rfl ?_
    refine jr.tsw_k 5 rfl rfl rfl ?_
    refine jr.aload_n rfl rfl ?_
    refine jr.iload_n rfl rfl ?_
    refine jr.iload_n rfl rfl ?_
    refine jr_v rfl rfl (Or.inl rfl) rfl rfl (nlt rfl) rfl ⟨rfl, Nat.le_of_ble_eq_true rfl, Nat.le_of_ble_eq_true rfl⟩ rfl (jc.deep (r_one hI_M hH_M hS_M (Kp.rfl _) (by omega) (by omega)  (fun r1 z1 w1_0 => ?_)) (Nat.le_of_ble_eq_true rfl))
    refine jr.iconst rfl ?_
    refine jr_s rfl rfl (Or.inl rfl) ⟨Nat.le_of_ble_eq_true rfl, Nat.le_of_ble_eq_true rfl⟩ rfl rfl (jc.deep (r_byNext_x hI_M hH_M hS_M  (by omega) (by omega)  (fun r2 z2 w2_0 => ?_)) (Nat.le_of_ble_eq_true rfl))
    exact jr.ireturn rfl rfl rfl (q _ (by omega) (by simp only [hsN, Int.reduceEq, reduceIte, or_false, false_or, or_true, true_or, or_self]; rw [hb_i (by omega) (by omega)]; unfold rf; rw [← w1_0]; exact w2_0))
  · have lk : lst 6 = 8 := rfl
    have lh : hls 6 = 8 := rfl
    have lr : lsr 6 = 8 := rfl
    refine jc_of (m := xm_265) rfl (Nat.le_of_ble_eq_true rfl) rfl ?_
    refine jr.iload_n rfl rfl ?_
    refine jr.tsw_k 6 rfl rfl rfl ?_
    refine jr.aload_n rfl rfl ?_
    refine jr.iload_n rfl rfl ?_
    refine jr.iload_n rfl rfl ?_
    refine jr.iconst rfl ?_
    refine jr.iadd rfl ?_
    refine jr_v rfl rfl (Or.inl rfl) rfl rfl (nlt rfl) rfl ⟨rfl, Nat.le_of_ble_eq_true rfl, Nat.le_of_ble_eq_true rfl⟩ rfl (jc.deep (r_two_x hI_M hH_M hS_M  (by omega) (by omega)  (fun r1 z1 w1_0 => ?_)) (Nat.le_of_ble_eq_true rfl))
    refine jr.iconst rfl ?_
    refine jr.ishr rfl ?_
    have b2 : j_shr r1 3 = r1 / 8 := j_shr_ex 3 (by decide) (by omega) (by omega)
    generalize j_shr r1 3 = v2 at b2 ⊢
    refine jr.if_le rfl rfl (by first | (refine rgb (by assumption) ?_; exact rfl) | omega) (fun h141 => ?_) (fun h141 => ?_)
    · refine jr.aload_n rfl rfl ?_
      refine jr.iload_n rfl rfl ?_
      refine jr.iload_n rfl rfl ?_
      refine jr_v rfl rfl (Or.inl rfl) rfl rfl (nlt rfl) rfl ⟨rfl, Nat.le_of_ble_eq_true rfl, Nat.le_of_ble_eq_true rfl⟩ rfl (jc.deep (r_one hI_M hH_M hS_M (Kp.rfl _) (by omega) (by omega)  (fun r3 z3 w3_0 => ?_)) (Nat.le_of_ble_eq_true rfl))
      refine jr.iconst rfl ?_
      refine jr_s rfl rfl (Or.inl rfl) ⟨Nat.le_of_ble_eq_true rfl, Nat.le_of_ble_eq_true rfl⟩ rfl rfl (jc.deep (r_byNext_x hI_M hH_M hS_M  (by omega) (by omega)  (fun r4 z4 w4_0 => ?_)) (Nat.le_of_ble_eq_true rfl))
      exact jr.ireturn rfl rfl rfl (q _ (by omega) (by simp only [hsN, Int.reduceEq, reduceIte, or_false, false_or, or_true, true_or, or_self]; rw [if_neg (by omega), hb_i (by omega) (by omega)]; unfold rf; rw [← w3_0]; exact w4_0))
    · refine jr.bipush rfl (jbp _ (nlt rfl)) ?_
      refine jr.goto rfl rfl ?_
      exact jr.ireturn rfl rfl rfl (q _ (by first | exact rgq rfl | omega) (by simp only [hsN, Int.reduceEq, reduceIte, or_false, false_or, or_true, true_or, or_self]; rw [if_pos (by omega)]))
  · have lk : lst 7 = 8 := rfl
    have lh : hls 7 = 8 := rfl
    have lr : lsr 7 = 8 := rfl
    refine jc_of (m := xm_265) rfl (Nat.le_of_ble_eq_true rfl) rfl ?_
    refine jr.iload_n rfl rfl ?_
    refine jr.tsw_k 7 rfl rfl rfl ?_
    refine jr.aload_n rfl rfl ?_
    refine jr.iload_n rfl rfl ?_
    refine jr.iload_n rfl rfl ?_
    refine jr_v rfl rfl (Or.inl rfl) rfl rfl (nlt rfl) rfl ⟨rfl, Nat.le_of_ble_eq_true rfl, Nat.le_of_ble_eq_true rfl⟩ rfl (jc.deep (r_one hI_M hH_M hS_M (Kp.rfl _) (by omega) (by omega)  (fun r1 z1 w1_0 => ?_)) (Nat.le_of_ble_eq_true rfl))
    refine jr.iconst rfl ?_
    refine jr.icmp_eq rfl rfl (by first | (refine rgb (by assumption) ?_; exact rfl) | omega) (rgl rfl) (fun h167 => ?_) (fun h167 => ?_)
    · refine jr.iload_n rfl rfl ?_
      refine jr.bipush rfl (jbp _ (nlt rfl)) ?_
      refine jr.iadd rfl ?_
      refine jr.aload_n rfl rfl ?_
      refine jr.getf (i := 3) (v := .ref 600) rfl rfl (nlt rfl) rfl (nlt rfl) rfl rfl rfl rfl ?_
      refine jr.iload_n rfl rfl ?_
      obtain ⟨v2, e2⟩ : ∃ z, M 600 x = z := ⟨_, rfl⟩
      have b2 : (-1) ≤ v2 ∧ v2 ≤ 400 := by rw [← e2]; exact (by have q := hI_M 600 x (Nat.le_of_ble_eq_true rfl); rw [xri_row rfl rfl] at q; exact q)
      refine jr.iald (i := x) (x := v2) rfl (nlt rfl) rfl (Nat.le_of_ble_eq_true rfl) (by omega) (by omega) e2 ?_
      refine jr.icmp_ge rfl rfl (by first | (refine rgb (by assumption) ?_; exact rfl) | omega) (by first | (refine rgb (by assumption) ?_; exact rfl) | omega) (fun h191 => ?_) (fun h191 => ?_)
      · refine jr.bipush rfl (jbp _ (nlt rfl)) ?_
        exact jr.ireturn rfl rfl rfl (q _ (by first | exact rgq rfl | omega) (by simp only [hsN, Int.reduceEq, reduceIte, or_false, false_or, or_true, true_or, or_self]; unfold byQ; rw [hb_i (show 0 ≤ a by omega) (show a < M 600 x by omega)]; first | (rw [hb_o (by omega)]; unfold rf; (repeat' split) <;> omega) | (rw [hb_i (by omega) (by omega)]; unfold rf; (repeat' split) <;> omega) | (unfold rf; (repeat' split) <;> omega)))
      · refine jr.aload_n rfl rfl ?_
        refine jr.iload_n rfl rfl ?_
        refine jr.iload_n rfl rfl ?_
        refine jr.bipush rfl (jbp _ (nlt rfl)) ?_
        refine jr.iadd rfl ?_
        refine jr_v rfl rfl (Or.inl rfl) rfl rfl (nlt rfl) rfl ⟨rfl, Nat.le_of_ble_eq_true rfl, Nat.le_of_ble_eq_true rfl⟩ rfl (jc.deep (r_one hI_M hH_M hS_M (Kp.rfl _) (by omega) (by omega)  (fun r3 z3 w3_0 => ?_)) (Nat.le_of_ble_eq_true rfl))
        refine jr.iconst rfl ?_
        refine jr.ishr rfl ?_
        have b4 : j_shr r3 4 = r3 / 16 := j_shr_ex 4 (by decide) (by omega) (by omega)
        generalize j_shr r3 4 = v4 at b4 ⊢
        refine jr.istore (ls' := [_, _, _, _, _]) rfl (nlt rfl) rfl ?_
        refine jr.iload rfl rfl ?_
        refine jr.iconst rfl ?_
        refine jr.icmp_ne rfl rfl (by first | (refine rgb (by assumption) ?_; exact rfl) | omega) (rgl rfl) (fun h210 => ?_) (fun h210 => ?_)
        · refine jr.iload rfl rfl ?_
          refine jr.bipush rfl (jbp _ (nlt rfl)) ?_
          refine jr.icmp_ne rfl rfl (by first | (refine rgb (by assumption) ?_; exact rfl) | omega) (rgl rfl) (fun h221 => ?_) (fun h221 => ?_)
          · refine jr.bipush rfl (jbp _ (nlt rfl)) ?_
            exact jr.ireturn rfl rfl rfl (q _ (by first | exact rgq rfl | omega) (by simp only [hsN, Int.reduceEq, reduceIte, or_false, false_or, or_true, true_or, or_self]; unfold byQ; rw [hb_i (show 0 ≤ a by omega) (show a < M 600 x by omega)]; first | (rw [hb_o (by omega)]; unfold rf; (repeat' split) <;> omega) | (rw [hb_i (by omega) (by omega)]; unfold rf; (repeat' split) <;> omega) | (unfold rf; (repeat' split) <;> omega)))
          · refine jr.iconst rfl ?_
            refine jr.goto rfl rfl ?_
            exact jr.ireturn rfl rfl rfl (q _ (by first | exact rgq rfl | omega) (by simp only [hsN, Int.reduceEq, reduceIte, or_false, false_or, or_true, true_or, or_self]; unfold byQ; rw [hb_i (show 0 ≤ a by omega) (show a < M 600 x by omega)]; first | (rw [hb_o (by omega)]; unfold rf; (repeat' split) <;> omega) | (rw [hb_i (by omega) (by omega)]; unfold rf; (repeat' split) <;> omega) | (unfold rf; (repeat' split) <;> omega)))
        · refine jr.iconst rfl ?_
          refine jr.goto rfl rfl ?_
          exact jr.ireturn rfl rfl rfl (q _ (by first | exact rgq rfl | omega) (by simp only [hsN, Int.reduceEq, reduceIte, or_false, false_or, or_true, true_or, or_self]; unfold byQ; rw [hb_i (show 0 ≤ a by omega) (show a < M 600 x by omega)]; first | (rw [hb_o (by omega)]; unfold rf; (repeat' split) <;> omega) | (rw [hb_i (by omega) (by omega)]; unfold rf; (repeat' split) <;> omega) | (unfold rf; (repeat' split) <;> omega)))
    · refine jr.aload_n rfl rfl ?_
      refine jr.iload_n rfl rfl ?_
      refine jr.iload_n rfl rfl ?_
      refine jr_v rfl rfl (Or.inl rfl) rfl rfl (nlt rfl) rfl ⟨rfl, Nat.le_of_ble_eq_true rfl, Nat.le_of_ble_eq_true rfl⟩ rfl (jc.deep (r_one hI_M hH_M hS_M (Kp.rfl _) (by omega) (by omega)  (fun r5 z5 w5_0 => ?_)) (Nat.le_of_ble_eq_true rfl))
      refine jr.bipush rfl (jbp _ (nlt rfl)) ?_
      refine jr.icmp_ne rfl rfl (by first | (refine rgb (by assumption) ?_; exact rfl) | omega) (rgl rfl) (fun h178 => ?_) (fun h178 => ?_)
      · refine jr.bipush rfl (jbp _ (nlt rfl)) ?_
        exact jr.ireturn rfl rfl rfl (q _ (by first | exact rgq rfl | omega) (by simp only [hsN, Int.reduceEq, reduceIte, or_false, false_or, or_true, true_or, or_self]; unfold byQ; rw [hb_i (show 0 ≤ a by omega) (show a < M 600 x by omega)]; first | (rw [hb_o (by omega)]; unfold rf; (repeat' split) <;> omega) | (rw [hb_i (by omega) (by omega)]; unfold rf; (repeat' split) <;> omega) | (unfold rf; (repeat' split) <;> omega)))
      · refine jr.iload_n rfl rfl ?_
        refine jr.bipush rfl (jbp _ (nlt rfl)) ?_
        refine jr.iadd rfl ?_
        refine jr.aload_n rfl rfl ?_
        refine jr.getf (i := 3) (v := .ref 600) rfl rfl (nlt rfl) rfl (nlt rfl) rfl rfl rfl rfl ?_
        refine jr.iload_n rfl rfl ?_
        obtain ⟨v6, e6⟩ : ∃ z, M 600 x = z := ⟨_, rfl⟩
        have b6 : (-1) ≤ v6 ∧ v6 ≤ 400 := by rw [← e6]; exact (by have q := hI_M 600 x (Nat.le_of_ble_eq_true rfl); rw [xri_row rfl rfl] at q; exact q)
        refine jr.iald (i := x) (x := v6) rfl (nlt rfl) rfl (Nat.le_of_ble_eq_true rfl) (by omega) (by omega) e6 ?_
        refine jr.icmp_ge rfl rfl (by first | (refine rgb (by assumption) ?_; exact rfl) | omega) (by first | (refine rgb (by assumption) ?_; exact rfl) | omega) (fun h191 => ?_) (fun h191 => ?_)
        · refine jr.bipush rfl (jbp _ (nlt rfl)) ?_
          exact jr.ireturn rfl rfl rfl (q _ (by first | exact rgq rfl | omega) (by simp only [hsN, Int.reduceEq, reduceIte, or_false, false_or, or_true, true_or, or_self]; unfold byQ; rw [hb_i (show 0 ≤ a by omega) (show a < M 600 x by omega)]; first | (rw [hb_o (by omega)]; unfold rf; (repeat' split) <;> omega) | (rw [hb_i (by omega) (by omega)]; unfold rf; (repeat' split) <;> omega) | (unfold rf; (repeat' split) <;> omega)))
        · refine jr.aload_n rfl rfl ?_
          refine jr.iload_n rfl rfl ?_
          refine jr.iload_n rfl rfl ?_
          refine jr.bipush rfl (jbp _ (nlt rfl)) ?_
          refine jr.iadd rfl ?_
          refine jr_v rfl rfl (Or.inl rfl) rfl rfl (nlt rfl) rfl ⟨rfl, Nat.le_of_ble_eq_true rfl, Nat.le_of_ble_eq_true rfl⟩ rfl (jc.deep (r_one hI_M hH_M hS_M (Kp.rfl _) (by omega) (by omega)  (fun r7 z7 w7_0 => ?_)) (Nat.le_of_ble_eq_true rfl))
          refine jr.iconst rfl ?_
          refine jr.ishr rfl ?_
          have b8 : j_shr r7 4 = r7 / 16 := j_shr_ex 4 (by decide) (by omega) (by omega)
          generalize j_shr r7 4 = v8 at b8 ⊢
          refine jr.istore (ls' := [_, _, _, _, _]) rfl (nlt rfl) rfl ?_
          refine jr.iload rfl rfl ?_
          refine jr.iconst rfl ?_
          refine jr.icmp_ne rfl rfl (by first | (refine rgb (by assumption) ?_; exact rfl) | omega) (rgl rfl) (fun h210 => ?_) (fun h210 => ?_)
          · refine jr.iload rfl rfl ?_
            refine jr.bipush rfl (jbp _ (nlt rfl)) ?_
            refine jr.icmp_ne rfl rfl (by first | (refine rgb (by assumption) ?_; exact rfl) | omega) (rgl rfl) (fun h221 => ?_) (fun h221 => ?_)
            · refine jr.bipush rfl (jbp _ (nlt rfl)) ?_
              exact jr.ireturn rfl rfl rfl (q _ (by first | exact rgq rfl | omega) (by simp only [hsN, Int.reduceEq, reduceIte, or_false, false_or, or_true, true_or, or_self]; unfold byQ; rw [hb_i (show 0 ≤ a by omega) (show a < M 600 x by omega)]; first | (rw [hb_o (by omega)]; unfold rf; (repeat' split) <;> omega) | (rw [hb_i (by omega) (by omega)]; unfold rf; (repeat' split) <;> omega) | (unfold rf; (repeat' split) <;> omega)))
            · refine jr.iconst rfl ?_
              refine jr.goto rfl rfl ?_
              exact jr.ireturn rfl rfl rfl (q _ (by first | exact rgq rfl | omega) (by simp only [hsN, Int.reduceEq, reduceIte, or_false, false_or, or_true, true_or, or_self]; unfold byQ; rw [hb_i (show 0 ≤ a by omega) (show a < M 600 x by omega)]; first | (rw [hb_o (by omega)]; unfold rf; (repeat' split) <;> omega) | (rw [hb_i (by omega) (by omega)]; unfold rf; (repeat' split) <;> omega) | (unfold rf; (repeat' split) <;> omega)))
          · refine jr.iconst rfl ?_
            refine jr.goto rfl rfl ?_
            exact jr.ireturn rfl rfl rfl (q _ (by first | exact rgq rfl | omega) (by simp only [hsN, Int.reduceEq, reduceIte, or_false, false_or, or_true, true_or, or_self]; unfold byQ; rw [hb_i (show 0 ≤ a by omega) (show a < M 600 x by omega)]; first | (rw [hb_o (by omega)]; unfold rf; (repeat' split) <;> omega) | (rw [hb_i (by omega) (by omega)]; unfold rf; (repeat' split) <;> omega) | (unfold rf; (repeat' split) <;> omega)))
  · have lk : lst 8 = 20 := rfl
    have lh : hls 8 = 20 := rfl
    have lr : lsr 8 = 20 := rfl
    refine jc_of (m := xm_265) rfl (Nat.le_of_ble_eq_true rfl) rfl ?_
    refine jr.iload_n rfl rfl ?_
    refine jr.tsw_k 8 rfl rfl rfl ?_
    refine jr.bipush rfl (jbp _ (nlt rfl)) ?_
    exact jr.ireturn rfl rfl rfl (q _ (by first | exact rgq rfl | omega) rfl)
  · have lk : lst 9 = 8 := rfl
    have lh : hls 9 = 8 := rfl
    have lr : lsr 9 = 8 := rfl
    refine jc_of (m := xm_265) rfl (Nat.le_of_ble_eq_true rfl) rfl ?_
    refine jr.iload_n rfl rfl ?_
    refine jr.tsw_k 9 rfl rfl rfl ?_
    refine jr.bipush rfl (jbp _ (nlt rfl)) ?_
    exact jr.ireturn rfl rfl rfl (q _ (by first | exact rgq rfl | omega) rfl)
  · have lk : lst 10 = 4 := rfl
    have lh : hls 10 = 4 := rfl
    have lr : lsr 10 = 4 := rfl
    refine jc_of (m := xm_265) rfl (Nat.le_of_ble_eq_true rfl) rfl ?_
    refine jr.iload_n rfl rfl ?_
    refine jr.tsw_k 10 rfl rfl rfl ?_
    refine jr.aload_n rfl rfl ?_
    refine jr.iload_n rfl rfl ?_
    refine jr.iload_n rfl rfl ?_
    refine jr.iconst rfl ?_
    refine jr.iadd rfl ?_
    refine jr_v rfl rfl (Or.inl rfl) rfl rfl (nlt rfl) rfl ⟨rfl, Nat.le_of_ble_eq_true rfl, Nat.le_of_ble_eq_true rfl⟩ rfl (jc.deep (r_two_x hI_M hH_M hS_M  (by omega) (by omega)  (fun r1 z1 w1_0 => ?_)) (Nat.le_of_ble_eq_true rfl))
    refine jr_s rfl rfl (Or.inl rfl) ⟨Nat.le_of_ble_eq_true rfl, Nat.le_of_ble_eq_true rfl⟩ rfl rfl (jc.deep (r_byKind_x hI_M hH_M hS_M  (by omega)  (fun r2 z2 w2_0 => ?_)) (Nat.le_of_ble_eq_true rfl))
    exact jr.ireturn rfl rfl rfl (q _ (by omega) (by simp only [hsN, Int.reduceEq, reduceIte, or_false, false_or, or_true, true_or, or_self]; rw [← w1_0]; exact w2_0))
theorem rf_b {M M1 : jm} {x c k a r v : Int} (g : ∀ (b : Nat) (i : Int), b ≠ 598 → M1 b i = M b i) : rf (ju (ju (ju (ju M1 603 c k) 604 c a) 605 c r) 598 6 v) x = rf M x := rf_e (fun i => by rw [ju_c _ _ (by decide), ju_c _ _ (by decide), ju_c _ _ (by decide), ju_c _ _ (by decide)]; exact g 601 i (by decide))
theorem rn_b {M M1 : jm} {x c k a r v : Int} (g : ∀ (b : Nat) (i : Int), b ≠ 598 → M1 b i = M b i) : ju (ju (ju (ju M1 603 c k) 604 c a) 605 c r) 598 6 v 600 x = M 600 x := by
  rw [ju_c _ _ (by decide), ju_c _ _ (by decide), ju_c _ _ (by decide), ju_c _ _ (by decide)]; exact g 600 x (by decide)
theorem r_look_L27_x {A : Nat → Option (Nat × (Nat → Int32))} {Q : Option Value → jm → Prop} {M0 : jm} {x0 : Int} (q : ∀ (M' : jm), RI M' → RH M' → RF M' → LK x0 M' → HQ6 M' (rf M0 x0) (M0 600 x0) → (∀ (a : Nat) (i : Int), a ≠ 598 → a ≠ 603 → a ≠ 604 → a ≠ 605 → M' a i = M0 a i) → (∀ (i : Int), i ≠ 6 → i ≠ 10 → i ≠ 11 → i ≠ 12 → M' 598 i = M0 598 i) → Q none M') : ∀ (nM : Nat) (M : jm) (o : Int) (k : Int) (a : Int) (x : Int), RI M → RH M → RF M → (∀ (a : Nat) (i : Int), a ≠ 598 → a ≠ 603 → a ≠ 604 → a ≠ 605 → M a i = M0 a i) → (∀ (i : Int), i ≠ 6 → i ≠ 10 → i ≠ 11 → i ≠ 12 → M 598 i = M0 598 i) → 0 ≤ o ∧ o ≤ 1 → 0 ≤ k ∧ k ≤ 11 → 0 ≤ a ∧ a ≤ 400 → 0 ≤ x ∧ x ≤ 23 → 0 ≤ M 600 x ∧ M 600 x ≤ 400 → LK x M → LP6 M (rf M0 x) (M0 600 x) o k a → x = x0 → 13 - M 598 6 ≤ nM → jr A 3 xm_266 27 [(4, .int (Int32.ofInt (o))), (3, .int (Int32.ofInt (k))), (2, .int (Int32.ofInt (a))), (1, .int (Int32.ofInt (x))), (0, .ref (598))] [] M Q := by
  intro nM
  induction nM using Nat.strongRecOn with
  | ind nM ih =>
    intro M o k a x hI_M hH_M hS_M hF_M hG_M h_o h_k h_a h_x hy0 hy1 hy2 hy3 hm
    subst hy3
    have lk := lst_j h_k
    have hrf : rf M x = rf M0 x := rf_e (fun i => hF_M 601 i (nne rfl) (nne rfl) (nne rfl) (nne rfl))
    have hrn : M 600 x = M0 600 x := hF_M 600 x (nne rfl) (nne rfl) (nne rfl) (nne rfl)
    have hh6 : (0 : Int) ≤ M 598 6 ∧ M 598 6 ≤ 12 := hI_M 598 6 (Nat.le_of_ble_eq_true rfl)
    refine jr.iload rfl rfl ?_
    refine jr.if_eq rfl rfl (by first | (refine rgb (by assumption) ?_; exact rfl) | omega) (fun h29 => ?_) (fun h29 => ?_)
    · exact jr.vreturn rfl rfl (q _ hI_M hH_M hS_M  hy1 (LP6.e hy2 hh6 (by omega) (by omega)) (fun a i f598 f603 f604 f605 => (hF_M a i f598 f603 f604 f605)) (fun i g6 g10 g11 g12 => (hG_M i g6 g10 g11 g12)))
    · have sx29 : (1 : Int) ≤ o := by omega
      clear h29
      refine jr.iload_n rfl rfl ?_
      refine jr.bipush rfl (jbp _ (nlt rfl)) ?_
      refine jr.icmp_ne rfl rfl (by first | (refine rgb (by assumption) ?_; exact rfl) | omega) (rgl rfl) (fun h35 => ?_) (fun h35 => ?_)
      · have sx35 : k ≤ (10 : Int) := by omega
        clear h35
        refine jr.aload_n rfl rfl ?_
        refine jr.iload_n rfl rfl ?_
        refine jr_v rfl rfl (Or.inl rfl) rfl rfl (nlt rfl) rfl ⟨rfl, Nat.le_of_ble_eq_true rfl, Nat.le_of_ble_eq_true rfl⟩ rfl (jc.deep (r_against_x hI_M hH_M hS_M  (by omega)  (fun r1 z1 w1_0 w1_1 => ?_)) (Nat.le_of_ble_eq_true rfl))
        refine jr.istore (ls' := [_, _, _, _, _, _]) rfl (nlt rfl) rfl ?_
        refine jr.iload rfl rfl ?_
        refine jr.if_eq rfl rfl (by first | (refine rgb (by assumption) ?_; exact rfl) | omega) (fun h58 => ?_) (fun h58 => ?_)
        · refine jr.iload_n rfl rfl ?_
          refine jr.bipush rfl (jbp _ (nlt rfl)) ?_
          refine jr.icmp_ne rfl rfl (by first | (refine rgb (by assumption) ?_; exact rfl) | omega) (rgl rfl) (fun h73 => ?_) (fun h73 => ?_)
          · refine jr.aload_n rfl rfl ?_
            refine jr.iload_n rfl rfl ?_
            refine jr.iload_n rfl rfl ?_
            refine jr.iload_n rfl rfl ?_
            obtain ⟨v3, e3⟩ : ∃ z, M 600 x = z := ⟨_, rfl⟩
            have b3 : (-1) ≤ v3 ∧ v3 ≤ 400 := by rw [← e3]; exact (by have q := hI_M 600 x (Nat.le_of_ble_eq_true rfl); rw [xri_row rfl rfl] at q; exact q)
            refine jr_v rfl rfl (Or.inl rfl) rfl rfl (nlt rfl) rfl ⟨rfl, Nat.le_of_ble_eq_true rfl, Nat.le_of_ble_eq_true rfl⟩ rfl (jc.deep (r_measure_x hI_M hH_M hS_M  (by omega) (by omega) (by omega) (by rw [e3]; omega) (fun r2 M2 hI_M2 hH_M2 hS_M2  z2 w2_0 w2_1 w2_2 w2_3 => ?_)) (Nat.le_of_ble_eq_true rfl))
            refine jr.istore (ls' := [_, _, _, _, _, _, _]) rfl (nlt rfl) rfl ?_
            refine jr.iload rfl rfl ?_
            refine jr.iconst rfl ?_
            refine jr.icmp_ne rfl rfl (by first | (refine rgb (by assumption) ?_; exact rfl) | omega) (rgl rfl) (fun h99 => ?_) (fun h99 => ?_)
            · have sx99 : (0 : Int) ≤ r2 := by omega
              clear h99
              refine jr.aload_n rfl rfl ?_
              refine jr.getf (i := 7) (v := .ref 603) rfl rfl (nlt rfl) rfl (nlt rfl) rfl rfl rfl rfl ?_
              refine jr.aload_n rfl rfl ?_
              obtain ⟨v4, e4⟩ : ∃ z, M 598 6 = z := ⟨_, rfl⟩
              have b4 : 0 ≤ v4 ∧ v4 ≤ 12 := by rw [← e4]; exact hI_M 598 6 (Nat.le_of_ble_eq_true rfl)
              have e5 : M2 598 6 = v4 := ((w2_3 6 (zne rfl) (zne rfl) (zne rfl)).trans e4)
              refine jr.getf (i := 6) (x := v4) (v := .int (Int32.ofInt (v4))) rfl rfl (nlt rfl) rfl (nlt rfl) rfl rfl e5 rfl ?_
              refine jr.iload_n rfl rfl ?_
              refine jr.iast (i := v4) (x := k) rfl (nlt rfl) rfl (Nat.le_of_ble_eq_true rfl) (by omega) (by omega) ?_
              refine jr.aload_n rfl rfl ?_
              refine jr.getf (i := 8) (v := .ref 604) rfl rfl (nlt rfl) rfl (nlt rfl) rfl rfl rfl rfl ?_
              refine jr.aload_n rfl rfl ?_
              refine jr.getf (i := 6) (x := v4) (v := .int (Int32.ofInt (v4))) rfl rfl (nlt rfl) rfl (nlt rfl) rfl rfl ((ju_c _ _ (by decide)).trans e5) rfl ?_
              refine jr.iload_n rfl rfl ?_
              refine jr.iast (i := v4) (x := a) rfl (nlt rfl) rfl (Nat.le_of_ble_eq_true rfl) (by omega) (by omega) ?_
              refine jr.aload_n rfl rfl ?_
              refine jr.getf (i := 9) (v := .ref 605) rfl rfl (nlt rfl) rfl (nlt rfl) rfl rfl rfl rfl ?_
              refine jr.aload_n rfl rfl ?_
              refine jr.getf (i := 6) (x := v4) (v := .int (Int32.ofInt (v4))) rfl rfl (nlt rfl) rfl (nlt rfl) rfl rfl ((ju_c _ _ (by decide)).trans ((ju_c _ _ (by decide)).trans e5)) rfl ?_
              refine jr.iload rfl rfl ?_
              refine jr.iast (i := v4) (x := r2) rfl (nlt rfl) rfl (Nat.le_of_ble_eq_true rfl) (by omega) (by omega) ?_
              refine jr.aload_n rfl rfl ?_
              refine jr.dup rfl rfl ?_
              refine jr.getf (i := 6) (x := v4) (v := .int (Int32.ofInt (v4))) rfl rfl (nlt rfl) rfl (nlt rfl) rfl rfl ((ju_c _ _ (by decide)).trans ((ju_c _ _ (by decide)).trans ((ju_c _ _ (by decide)).trans e5))) rfl ?_
              refine jr.iconst rfl ?_
              refine jr.iadd rfl ?_
              refine jr.putf (i := 6) (x := (v4 + 1)) rfl rfl (nlt rfl) rfl (nlt rfl) rfl rfl rfl rfl rfl ?_
              refine jr.iload_n rfl rfl ?_
              refine jr.bipush rfl (jbp _ (nlt rfl)) ?_
              refine jr.icmp_eq rfl rfl (by first | (refine rgb (by assumption) ?_; exact rfl) | omega) (rgl rfl) (fun h147 => ?_) (fun h147 => ?_)
              · exact absurd h147 (by omega)
              · refine jr.iconst rfl ?_
                refine jr.goto rfl rfl ?_
                refine jr.istore (ls' := [_, _, _, _, _, _, _]) rfl (nlt rfl) rfl ?_
                refine jr.iload rfl rfl ?_
                refine jr.if_eq rfl rfl (by first | exact rgl rfl | omega) (fun h => absurd h (by decide)) (fun _ => ?_)
                refine jr.aload_n rfl rfl ?_
                refine jr.iload_n rfl rfl ?_
                refine jr.iload_n rfl rfl ?_
                refine jr.iload_n rfl rfl ?_
                refine jr_v rfl rfl (Or.inl rfl) rfl rfl (nlt rfl) rfl ⟨rfl, Nat.le_of_ble_eq_true rfl, Nat.le_of_ble_eq_true rfl⟩ rfl (jc.deep (r_behind_x (RI.u (RI.u (RI.u (RI.u hI_M2 (a := 603) (i := v4) (by rw [xri_row rfl rfl]; show (0 : Int) ≤ _ ∧ _ ≤ (11 : Int); omega)) (a := 604) (i := v4) (by rw [xri_row rfl rfl]; show (0 : Int) ≤ _ ∧ _ ≤ (400 : Int); omega)) (a := 605) (i := v4) (by rw [xri_row rfl rfl]; show (0 : Int) ≤ _ ∧ _ ≤ (400 : Int); omega)) (a := 598) (i := 6) (show (0 : Int) ≤ _ ∧ _ ≤ (12 : Int) from by omega)) (RH.o (RH.w hH_M2 (j := v4) (k := k) (a := a) (s := r2) (by omega) (by omega) (by omega)) (by decide) (by decide) (by decide)) (RF.o (RF.o (RF.o (RF.o hS_M2 (by decide) (by decide)) (by decide) (by decide)) (by decide) (by decide)) (by decide) (by decide))  (by omega) (by omega) (by omega) (by rw [rn_b w2_2]; have h9 := w2_0.2; rcases h9 with h9 | h9; exact absurd h9.2.1 (by omega); have h8 := hsF_z h9.1; exact h8.2.1) (fun r6 z6 w6_0 => ?_)) (Nat.le_of_ble_eq_true rfl))
                refine jr.goto rfl rfl ?_
                refine jr.istore_n (ls' := [_, _, _, _, _, _, _]) rfl (nlt rfl) rfl ?_
                refine jr.iload_n rfl rfl ?_
                refine jr.iload rfl rfl ?_
                refine jr.iadd rfl ?_
                refine jr.istore_n (ls' := [_, _, _, _, _, _, _]) rfl (nlt rfl) rfl ?_
                refine jr.goto rfl rfl ?_
                have e7 : M2 600 x = v3 := ((w2_2 600 x (nne rfl)).trans e3)
                refine jr.pick (ls := [_, _, _, _, _]) [2, 1, 0, 5, 6] rfl rfl ?_
                exact ih (nM - 1) (by omega) (ju (ju (ju (ju M2 603 v4 k) 604 v4 a) 605 v4 r2) 598 6 (v4 + 1)) 1 r6 (a + r2) x (RI.u (RI.u (RI.u (RI.u hI_M2 (a := 603) (i := v4) (by rw [xri_row rfl rfl]; show (0 : Int) ≤ _ ∧ _ ≤ (11 : Int); omega)) (a := 604) (i := v4) (by rw [xri_row rfl rfl]; show (0 : Int) ≤ _ ∧ _ ≤ (400 : Int); omega)) (a := 605) (i := v4) (by rw [xri_row rfl rfl]; show (0 : Int) ≤ _ ∧ _ ≤ (400 : Int); omega)) (a := 598) (i := 6) (show (0 : Int) ≤ _ ∧ _ ≤ (12 : Int) from by omega)) (RH.o (RH.w hH_M2 (j := v4) (k := k) (a := a) (s := r2) (by omega) (by omega) (by omega)) (by decide) (by decide) (by decide)) (RF.o (RF.o (RF.o (RF.o hS_M2 (by decide) (by decide)) (by decide) (by decide)) (by decide) (by decide)) (by decide) (by decide))  (fun a i f598 f603 f604 f605 => ((ju_c _ _ f598).trans ((ju_c _ _ f605).trans ((ju_c _ _ f604).trans ((ju_c _ _ f603).trans ((w2_2 a i f598).trans (hF_M a i f598 f603 f604 f605))))))) (fun i g6 g10 g11 g12 => ((ju_i _ _ g6).trans ((ju_c _ _ (by decide)).trans ((ju_c _ _ (by decide)).trans ((ju_c _ _ (by decide)).trans ((w2_3 i g10 g11 g12).trans (hG_M i g6 g10 g11 g12))))))) (by omega) (by omega) (by omega) (by omega) (by rw [((ju_c _ _ (by decide)).trans ((ju_c _ _ (by decide)).trans ((ju_c _ _ (by decide)).trans ((ju_c _ _ (by decide)).trans e7))))]; omega) (LK.add (LK.fr hy1 (w2_3 6 (zne rfl) (zne rfl) (zne rfl)) (fun i => w2_2 600 i (nne rfl)) (fun i => w2_2 601 i (nne rfl)) (fun i => w2_2 603 i (nne rfl)) (fun i => w2_2 604 i (nne rfl)) (fun i => w2_2 605 i (nne rfl))) e5 (by rw [w2_2 600 _ (nne rfl)]; omega) (by omega) (fun q => by have z := w2_1 q; rw [w2_2 601 _ (nne rfl)]; omega)) (LP6.s hy2 (by omega) hh6 (by omega) (by omega) (AG.z w1_1 (by omega)) w2_2 (w2_3 6 (zne rfl) (zne rfl) (zne rfl)) e5 (Or.inl ⟨by omega, by omega, by have h9 := w2_0.2; rw [hrf, hrn] at h9; exact h9⟩) (Or.inr ⟨by omega, by omega, by have h9 := w6_0; rw [rf_b w2_2, rn_b w2_2, hrf, hrn] at h9; exact h9⟩)) (by omega) (by rw [(ju_same _ _ _ _)]; omega)
            · exact jr.vreturn rfl rfl (q _ hI_M2 hH_M2 hS_M2  (LK.fr hy1 (w2_3 6 (zne rfl) (zne rfl) (zne rfl)) (fun i => w2_2 600 i (nne rfl)) (fun i => w2_2 601 i (nne rfl)) (fun i => w2_2 603 i (nne rfl)) (fun i => w2_2 604 i (nne rfl)) (fun i => w2_2 605 i (nne rfl))) (LP6.m hy2 (by omega) hh6 (by omega) (by omega) (AG.z w1_1 (by omega)) w2_2 (w2_3 6 (zne rfl) (zne rfl) (zne rfl)) (by have h9 := w2_0.2; rw [hrf, hrn] at h9; exact h9) (by omega)) (fun a i f598 f603 f604 f605 => ((w2_2 a i f598).trans (hF_M a i f598 f603 f604 f605))) (fun i g6 g10 g11 g12 => ((w2_3 i g10 g11 g12).trans (hG_M i g6 g10 g11 g12))))
          · exact absurd (by omega) h73
        · have sx58 : (1 : Int) ≤ r1 := by omega
          clear h58
          refine jr.aload_n rfl rfl ?_
          refine jr.iload rfl rfl ?_
          refine jr.iload_n rfl rfl ?_
          refine jr.iload_n rfl rfl ?_
          refine jr_v rfl rfl (Or.inl rfl) rfl rfl (nlt rfl) rfl ⟨rfl, Nat.le_of_ble_eq_true rfl, Nat.le_of_ble_eq_true rfl⟩ rfl (jc.deep (r_finds_x hI_M hH_M hS_M  (by omega) (by omega) (by omega)  (fun M8 hI_M8 hH_M8 hS_M8  w8_0 w8_1 w8_2 => ?_)) (Nat.le_of_ble_eq_true rfl))
          exact jr.vreturn rfl rfl (q _ hI_M8 hH_M8 hS_M8  (LK.fr hy1 (w8_2 6 (zne rfl) (zne rfl) (zne rfl)) (fun i => w8_1 600 i (nne rfl)) (fun i => w8_1 601 i (nne rfl)) (fun i => w8_1 603 i (nne rfl)) (fun i => w8_1 604 i (nne rfl)) (fun i => w8_1 605 i (nne rfl))) (LP6.a hy2 (by omega) hh6 (by omega) (by omega) (AG.n w1_1 (by omega)) w8_1 (w8_2 6 (zne rfl) (zne rfl) (zne rfl)) w8_0) (fun a i f598 f603 f604 f605 => ((w8_1 a i f598).trans (hF_M a i f598 f603 f604 f605))) (fun i g6 g10 g11 g12 => ((w8_2 i g10 g11 g12).trans (hG_M i g6 g10 g11 g12))))
      · refine jr.iload_n rfl rfl ?_
        refine jr.aload_n rfl rfl ?_
        refine jr.getf (i := 3) (v := .ref 600) rfl rfl (nlt rfl) rfl (nlt rfl) rfl rfl rfl rfl ?_
        refine jr.iload_n rfl rfl ?_
        obtain ⟨v9, e9⟩ : ∃ z, M 600 x = z := ⟨_, rfl⟩
        have b9 : (-1) ≤ v9 ∧ v9 ≤ 400 := by rw [← e9]; exact (by have q := hI_M 600 x (Nat.le_of_ble_eq_true rfl); rw [xri_row rfl rfl] at q; exact q)
        refine jr.iald (i := x) (x := v9) rfl (nlt rfl) rfl (Nat.le_of_ble_eq_true rfl) (by omega) (by omega) e9 ?_
        refine jr.icmp_lt rfl rfl (by first | (refine rgb (by assumption) ?_; exact rfl) | omega) (by first | (refine rgb (by assumption) ?_; exact rfl) | omega) (fun h45 => ?_) (fun h45 => ?_)
        · refine jr.aload_n rfl rfl ?_
          refine jr.iload_n rfl rfl ?_
          refine jr_v rfl rfl (Or.inl rfl) rfl rfl (nlt rfl) rfl ⟨rfl, Nat.le_of_ble_eq_true rfl, Nat.le_of_ble_eq_true rfl⟩ rfl (jc.deep (r_against_x hI_M hH_M hS_M  (by omega)  (fun r10 z10 w10_0 w10_1 => ?_)) (Nat.le_of_ble_eq_true rfl))
          refine jr.istore (ls' := [_, _, _, _, _, _]) rfl (nlt rfl) rfl ?_
          refine jr.iload rfl rfl ?_
          refine jr.if_eq rfl rfl (by first | (refine rgb (by assumption) ?_; exact rfl) | omega) (fun h58 => ?_) (fun h58 => ?_)
          · refine jr.iload_n rfl rfl ?_
            refine jr.bipush rfl (jbp _ (nlt rfl)) ?_
            refine jr.icmp_ne rfl rfl (by first | (refine rgb (by assumption) ?_; exact rfl) | omega) (rgl rfl) (fun h73 => ?_) (fun h73 => ?_)
            · exact absurd h73 (by omega)
            · refine jr.aload_n rfl rfl ?_
              refine jr.getf (i := 3) (v := .ref 600) rfl rfl (nlt rfl) rfl (nlt rfl) rfl rfl rfl rfl ?_
              refine jr.iload_n rfl rfl ?_
              refine jr.iald (i := x) (x := v9) rfl (nlt rfl) rfl (Nat.le_of_ble_eq_true rfl) (by omega) (by omega) e9 ?_
              refine jr.iload_n rfl rfl ?_
              refine jr.isub rfl ?_
              refine jr.goto rfl rfl ?_
              refine jr.istore (ls' := [_, _, _, _, _, _, _]) rfl (nlt rfl) rfl ?_
              refine jr.iload rfl rfl ?_
              refine jr.iconst rfl ?_
              refine jr.icmp_ne rfl rfl (by first | (refine rgb (by assumption) ?_; exact rfl) | omega) (rgl rfl) (fun h99 => ?_) (fun h99 => ?_)
              · refine jr.aload_n rfl rfl ?_
                refine jr.getf (i := 7) (v := .ref 603) rfl rfl (nlt rfl) rfl (nlt rfl) rfl rfl rfl rfl ?_
                refine jr.aload_n rfl rfl ?_
                obtain ⟨v11, e11⟩ : ∃ z, M 598 6 = z := ⟨_, rfl⟩
                have b11 : 0 ≤ v11 ∧ v11 ≤ 12 := by rw [← e11]; exact hI_M 598 6 (Nat.le_of_ble_eq_true rfl)
                refine jr.getf (i := 6) (x := v11) (v := .int (Int32.ofInt (v11))) rfl rfl (nlt rfl) rfl (nlt rfl) rfl rfl e11 rfl ?_
                refine jr.iload_n rfl rfl ?_
                refine jr.iast (i := v11) (x := k) rfl (nlt rfl) rfl (Nat.le_of_ble_eq_true rfl) (by omega) (by omega) ?_
                refine jr.aload_n rfl rfl ?_
                refine jr.getf (i := 8) (v := .ref 604) rfl rfl (nlt rfl) rfl (nlt rfl) rfl rfl rfl rfl ?_
                refine jr.aload_n rfl rfl ?_
                refine jr.getf (i := 6) (x := v11) (v := .int (Int32.ofInt (v11))) rfl rfl (nlt rfl) rfl (nlt rfl) rfl rfl ((ju_c _ _ (by decide)).trans e11) rfl ?_
                refine jr.iload_n rfl rfl ?_
                refine jr.iast (i := v11) (x := a) rfl (nlt rfl) rfl (Nat.le_of_ble_eq_true rfl) (by omega) (by omega) ?_
                refine jr.aload_n rfl rfl ?_
                refine jr.getf (i := 9) (v := .ref 605) rfl rfl (nlt rfl) rfl (nlt rfl) rfl rfl rfl rfl ?_
                refine jr.aload_n rfl rfl ?_
                refine jr.getf (i := 6) (x := v11) (v := .int (Int32.ofInt (v11))) rfl rfl (nlt rfl) rfl (nlt rfl) rfl rfl ((ju_c _ _ (by decide)).trans ((ju_c _ _ (by decide)).trans e11)) rfl ?_
                refine jr.iload rfl rfl ?_
                refine jr.iast (i := v11) (x := (v9 - a)) rfl (nlt rfl) rfl (Nat.le_of_ble_eq_true rfl) (by omega) (by omega) ?_
                refine jr.aload_n rfl rfl ?_
                refine jr.dup rfl rfl ?_
                refine jr.getf (i := 6) (x := v11) (v := .int (Int32.ofInt (v11))) rfl rfl (nlt rfl) rfl (nlt rfl) rfl rfl ((ju_c _ _ (by decide)).trans ((ju_c _ _ (by decide)).trans ((ju_c _ _ (by decide)).trans e11))) rfl ?_
                refine jr.iconst rfl ?_
                refine jr.iadd rfl ?_
                refine jr.putf (i := 6) (x := (v11 + 1)) rfl rfl (nlt rfl) rfl (nlt rfl) rfl rfl rfl rfl rfl ?_
                refine jr.iload_n rfl rfl ?_
                refine jr.bipush rfl (jbp _ (nlt rfl)) ?_
                refine jr.icmp_eq rfl rfl (by first | (refine rgb (by assumption) ?_; exact rfl) | omega) (rgl rfl) (fun h147 => ?_) (fun h147 => ?_)
                · refine jr.iconst rfl ?_
                  refine jr.istore (ls' := [_, _, _, _, _, _, _]) rfl (nlt rfl) rfl ?_
                  refine jr.iload rfl rfl ?_
                  refine jr.if_eq rfl rfl (by first | exact rgl rfl | omega) (fun _ => ?_) (fun h => absurd (by decide) h)
                  refine jr.bipush rfl (jbp _ (nlt rfl)) ?_
                  refine jr.istore_n (ls' := [_, _, _, _, _, _, _]) rfl (nlt rfl) rfl ?_
                  refine jr.iload_n rfl rfl ?_
                  refine jr.iload rfl rfl ?_
                  refine jr.iadd rfl ?_
                  refine jr.istore_n (ls' := [_, _, _, _, _, _, _]) rfl (nlt rfl) rfl ?_
                  refine jr.goto rfl rfl ?_
                  refine jr.pick (ls := [_, _, _, _, _]) [2, 1, 0, 5, 6] rfl rfl ?_
                  exact ih (nM - 1) (by omega) (ju (ju (ju (ju M 603 v11 k) 604 v11 a) 605 v11 (v9 - a)) 598 6 (v11 + 1)) 0 11 (a + (v9 - a)) x (RI.u (RI.u (RI.u (RI.u hI_M (a := 603) (i := v11) (by rw [xri_row rfl rfl]; show (0 : Int) ≤ _ ∧ _ ≤ (11 : Int); omega)) (a := 604) (i := v11) (by rw [xri_row rfl rfl]; show (0 : Int) ≤ _ ∧ _ ≤ (400 : Int); omega)) (a := 605) (i := v11) (by rw [xri_row rfl rfl]; show (0 : Int) ≤ _ ∧ _ ≤ (400 : Int); omega)) (a := 598) (i := 6) (show (0 : Int) ≤ _ ∧ _ ≤ (12 : Int) from by omega)) (RH.o (RH.w hH_M (j := v11) (k := k) (a := a) (s := (v9 - a)) (by omega) (by omega) (by omega)) (by decide) (by decide) (by decide)) (RF.o (RF.o (RF.o (RF.o hS_M (by decide) (by decide)) (by decide) (by decide)) (by decide) (by decide)) (by decide) (by decide))  (fun a i f598 f603 f604 f605 => ((ju_c _ _ f598).trans ((ju_c _ _ f605).trans ((ju_c _ _ f604).trans ((ju_c _ _ f603).trans (hF_M a i f598 f603 f604 f605)))))) (fun i g6 g10 g11 g12 => ((ju_i _ _ g6).trans ((ju_c _ _ (by decide)).trans ((ju_c _ _ (by decide)).trans ((ju_c _ _ (by decide)).trans (hG_M i g6 g10 g11 g12)))))) (by omega) (by omega) (by omega) (by omega) (by rw [((ju_c _ _ (by decide)).trans ((ju_c _ _ (by decide)).trans ((ju_c _ _ (by decide)).trans ((ju_c _ _ (by decide)).trans e9))))]; omega) (LK.add hy1 e11 (by omega) (by omega) (fun q => absurd q (by omega))) (LP6.s hy2 (by omega) hh6 (by omega) (by omega) (AG.z w10_1 (by omega)) (fun _ _ _ => rfl) rfl e11 (Or.inr ⟨by omega, by omega, rfl⟩) (Or.inl ⟨by omega, by omega⟩)) (by omega) (by rw [(ju_same _ _ _ _)]; omega)
                · exact absurd (by omega) h147
              · exact jr.vreturn rfl rfl (q _ hI_M hH_M hS_M  hy1 (absurd h99 (by omega)) (fun a i f598 f603 f604 f605 => (hF_M a i f598 f603 f604 f605)) (fun i g6 g10 g11 g12 => (hG_M i g6 g10 g11 g12)))
          · have sx58 : (1 : Int) ≤ r10 := by omega
            clear h58
            refine jr.aload_n rfl rfl ?_
            refine jr.iload rfl rfl ?_
            refine jr.iload_n rfl rfl ?_
            refine jr.iload_n rfl rfl ?_
            refine jr_v rfl rfl (Or.inl rfl) rfl rfl (nlt rfl) rfl ⟨rfl, Nat.le_of_ble_eq_true rfl, Nat.le_of_ble_eq_true rfl⟩ rfl (jc.deep (r_finds_x hI_M hH_M hS_M  (by omega) (by omega) (by omega)  (fun M12 hI_M12 hH_M12 hS_M12  w12_0 w12_1 w12_2 => ?_)) (Nat.le_of_ble_eq_true rfl))
            exact jr.vreturn rfl rfl (q _ hI_M12 hH_M12 hS_M12  (LK.fr hy1 (w12_2 6 (zne rfl) (zne rfl) (zne rfl)) (fun i => w12_1 600 i (nne rfl)) (fun i => w12_1 601 i (nne rfl)) (fun i => w12_1 603 i (nne rfl)) (fun i => w12_1 604 i (nne rfl)) (fun i => w12_1 605 i (nne rfl))) (LP6.a hy2 (by omega) hh6 (by omega) (by omega) (AG.n w10_1 (by omega)) w12_1 (w12_2 6 (zne rfl) (zne rfl) (zne rfl)) w12_0) (fun a i f598 f603 f604 f605 => ((w12_1 a i f598).trans (hF_M a i f598 f603 f604 f605))) (fun i g6 g10 g11 g12 => ((w12_2 i g10 g11 g12).trans (hG_M i g6 g10 g11 g12))))
        · exact jr.vreturn rfl rfl (q _ hI_M hH_M hS_M  hy1 (LP6.e hy2 hh6 (by omega) (by omega)) (fun a i f598 f603 f604 f605 => (hF_M a i f598 f603 f604 f605)) (fun i g6 g10 g11 g12 => (hG_M i g6 g10 g11 g12)))
theorem r_look_x {A : Nat → Option (Nat × (Nat → Int32))} {Q : Option Value → jm → Prop} {M : jm} (hI_M : RI M) (hH_M : RH M) (hS_M : RF M) {x : Int} (h_x : 0 ≤ x ∧ x ≤ 23) (p0 : M 600 x ≠ -1) (q : ∀ (M' : jm), RI M' → RH M' → RF M' → LK x M' → HQ6 M' (rf M x) (M 600 x) → (∀ (a : Nat) (i : Int), a ≠ 598 → a ≠ 603 → a ≠ 604 → a ≠ 605 → M' a i = M a i) → (∀ (i : Int), i ≠ 6 → i ≠ 10 → i ≠ 11 → i ≠ 12 → M' 598 i = M 598 i) → Q none M') : jc A 4 266 [.ref (598), .int (Int32.ofInt (x))] M Q := by
  refine jc_of (m := xm_266) rfl (Nat.le_of_ble_eq_true rfl) rfl ?_
  refine jr.aload_n rfl rfl ?_
  refine jr.iconst rfl ?_
  refine jr.putf (i := 6) (x := 0) rfl rfl (nlt rfl) rfl (nlt rfl) rfl rfl rfl rfl rfl ?_
  refine jr.aload_n rfl rfl ?_
  refine jr.iconst rfl ?_
  refine jr.putf (i := 10) (x := 0) rfl rfl (nlt rfl) rfl (nlt rfl) rfl rfl rfl rfl rfl ?_
  refine jr.aload_n rfl rfl ?_
  refine jr.iconst rfl ?_
  refine jr.putf (i := 11) (x := (-1)) rfl rfl (nlt rfl) rfl (nlt rfl) rfl rfl rfl rfl rfl ?_
  refine jr.aload_n rfl rfl ?_
  refine jr.iconst rfl ?_
  refine jr.putf (i := 12) (x := (-1)) rfl rfl (nlt rfl) rfl (nlt rfl) rfl rfl rfl rfl rfl ?_
  refine jr.iconst rfl ?_
  refine jr.istore_n (ls' := [_, _, _]) rfl (nlt rfl) rfl ?_
  refine jr.iconst rfl ?_
  refine jr.istore_n (ls' := [_, _, _, _]) rfl (nlt rfl) rfl ?_
  refine jr.iconst rfl ?_
  refine jr.istore (ls' := [_, _, _, _, _]) rfl (nlt rfl) rfl ?_
  obtain ⟨v1, e1⟩ : ∃ z, M 600 x = z := ⟨_, rfl⟩
  have b1 : (-1) ≤ v1 ∧ v1 ≤ 400 := by rw [← e1]; exact (by have q := hI_M 600 x (Nat.le_of_ble_eq_true rfl); rw [xri_row rfl rfl] at q; exact q)
  refine jr.pick (ls := [_, _, _, _, _]) [0, 1, 2, 4, 3] rfl rfl ?_
  exact r_look_L27_x q 13 (ju (ju (ju (ju M 598 6 0) 598 10 0) 598 11 (-1)) 598 12 (-1)) 1 0 0 x (RI.u (RI.u (RI.u (RI.u hI_M (a := 598) (i := 6) (show (0 : Int) ≤ _ ∧ _ ≤ (12 : Int) from by omega)) (a := 598) (i := 10) (show (0 : Int) ≤ _ ∧ _ ≤ (6 : Int) from by omega)) (a := 598) (i := 11) (show (-1 : Int) ≤ _ ∧ _ ≤ (400 : Int) from by omega)) (a := 598) (i := 12) (show (-1 : Int) ≤ _ ∧ _ ≤ (11 : Int) from by omega)) (RH.o (RH.o (RH.o (RH.o hH_M (by decide) (by decide) (by decide)) (by decide) (by decide) (by decide)) (by decide) (by decide) (by decide)) (by decide) (by decide) (by decide)) (RF.o (RF.o (RF.o (RF.o hS_M (by decide) (by decide)) (by decide) (by decide)) (by decide) (by decide)) (by decide) (by decide))  (fun a i f598 f603 f604 f605 => ((ju_c _ _ f598).trans ((ju_c _ _ f598).trans ((ju_c _ _ f598).trans ((ju_c _ _ f598).trans rfl))))) (fun i g6 g10 g11 g12 => ((ju_i _ _ g12).trans ((ju_i _ _ g11).trans ((ju_i _ _ g10).trans ((ju_i _ _ g6).trans rfl))))) (by omega) (by omega) (by omega) (by omega) (by rw [((ju_c _ _ (by decide)).trans ((ju_c _ _ (by decide)).trans ((ju_c _ _ (by decide)).trans ((ju_c _ _ (by decide)).trans e1))))]; omega) (LK.zero ((ju_i _ _ (zne (by decide))).trans ((ju_i _ _ (zne (by decide))).trans ((ju_i _ _ (zne (by decide))).trans (ju_same _ _ _ _))))) (LP6.z ((ju_i _ _ (zne (by decide))).trans ((ju_i _ _ (zne (by decide))).trans ((ju_i _ _ (zne (by decide))).trans (ju_same _ _ _ _)))) ((ju_i _ _ (zne (by decide))).trans ((ju_i _ _ (zne (by decide))).trans (ju_same _ _ _ _))) ((ju_i _ _ (zne (by decide))).trans (ju_same _ _ _ _)) (ju_same _ _ _ _)) (by omega) (by rw [((ju_i _ _ (zne (by decide))).trans ((ju_i _ _ (zne (by decide))).trans ((ju_i _ _ (zne (by decide))).trans (ju_same _ _ _ _))))]; omega)
