section
theorem gov_s {w : Int → Int} {s i : Int} (h : 0 ≤ i) : gov w s (i + 1).toNat = gov w s i.toNat + (if w (s + i) = -1 then 0 else 1) := by
  obtain ⟨n, rfl⟩ := Int.eq_ofNat_of_zero_le h
  rw [show ((n : Int) + 1).toNat = n + 1 by omega, show ((n : Int)).toNat = n by omega]
  rfl
/-- a row with m bytes of f from e on laid at s, where it was empty -/
noncomputable def glay (w f : Int → Int) (s e m : Int) : Int → Int := fun k => if s ≤ k ∧ k < s + m ∧ w k = -1 then f (e + (k - s)) else w k
noncomputable def wh1 (f : Int → Int) (N C y W : Int) : Int := if W = -1 ∧ mrf f N C y ≠ 1 then ofs f N C y + (N - enf f N C y) else W
noncomputable def cm1 (f : Int → Int) (N C y K : Int) : Int := if K ≤ ofs f N C y + (N - enf f N C y) then ofs f N C y + (N - enf f N C y) else K
noncomputable def mlf (D s L : Int) : Int := if D ≤ L - s then D else if 0 ≤ L - s then L - s else 0
noncomputable def TK0 (T M : jm) (t : Nat) (W K : Int) : Prop := M t 7 = W ∧ M t 8 = K ∧ (∀ k : Int, k ≠ 7 → k ≠ 8 → M t k = T t k) ∧ ∀ (b : Nat) (k : Int), b ≠ t → M b k = T b k
noncomputable def TKF (T M : jm) (t : Nat) (f : Int → Int) (N C y : Int) : Prop := (M t 7 = wh1 f N C y (T t 7) ∧ M t 8 = cm1 f N C y (T t 8)) ∧ (∀ k : Int, k ≠ 7 → k ≠ 8 → k ≠ 11 → k ≠ 12 → k ≠ 13 → M t k = T t k) ∧ ((ofs f N C y = 0 ∧ T t 11 = -1 ∧ (M t 11 = enf f N C y ∧ M t 12 = pA f N C (ntf f N C) ∧ ((T t 1 = 6 ∧ M t 13 = pA f N C (y - 1) + (if kA f N C (y - 1) = 3 then 4 else 0)) ∨ (T t 1 ≠ 6 ∧ M t 13 = T t 13))) ∧ ∀ k : Int, 0 ≤ k → k < enf f N C y → M (t + 2) k = f k) ∨ (¬ (ofs f N C y = 0 ∧ T t 11 = -1) ∧ (M t 11 = T t 11 ∧ M t 12 = T t 12 ∧ M t 13 = T t 13) ∧ ∀ k : Int, M (t + 2) k = T (t + 2) k)) ∧ ∀ (b : Nat) (k : Int), b ≠ t → b ≠ t + 1 → b ≠ t + 2 → b ≠ 14 → M b k = T b k
theorem TK0.n {T M : jm} {t : Nat} {f : Int → Int} {N C y W K : Int} (h : TK0 T M t W K) (hW : W = wh1 f N C y (T t 7)) (hK : K = cm1 f N C y (T t 8)) (hn : ¬ (ofs f N C y = 0 ∧ T t 11 = -1)) : TKF T M t f N C y := ⟨⟨h.1.trans hW, h.2.1.trans hK⟩, fun k a b _ _ _ => h.2.2.1 k a b, Or.inr ⟨hn, ⟨h.2.2.1 11 (by decide) (by decide), h.2.2.1 12 (by decide) (by decide), h.2.2.1 13 (by decide) (by decide)⟩, fun k => h.2.2.2 (t + 2) k (by omega)⟩, fun b k b0 _ _ _ => h.2.2.2 b k b0⟩
theorem TK0.k {T M M1 : jm} {t : Nat} {f : Int → Int} {N C y W K : Int} (h : TK0 T M t W K) (hW : W = wh1 f N C y (T t 7)) (hK : K = cm1 f N C y (T t 8)) (hn : ofs f N C y = 0 ∧ T t 11 = -1) (w : KPH M M1 t f N C y) : TKF T M1 t f N C y := by
  obtain ⟨w1, w2, w3, w4⟩ := w
  have e1 : M t 1 = T t 1 := h.2.2.1 1 (by decide) (by decide)
  have e13 : M t 13 = T t 13 := h.2.2.1 13 (by decide) (by decide)
  rw [e1, e13] at w1
  refine ⟨⟨?_, ?_⟩, fun k a b c d e => ?_, Or.inl ⟨hn.1, hn.2, w1, w2⟩, fun b k b0 b1 b2 b3 => ?_⟩
  · rw [w3 7 (by decide) (by decide) (by decide)]; exact h.1.trans hW
  · rw [w3 8 (by decide) (by decide) (by decide)]; exact h.2.1.trans hK
  · rw [w3 k c d e]; exact h.2.2.1 k a b
  · rw [w4 b k b0 b2]; exact h.2.2.2 b k b0
theorem TKF.r {T M : jm} {t : Nat} {f : Int → Int} {N C y i v : Int} (h : TKF T M t f N C y) : TKF T (ju M (t + 1) i v) t f N C y := by
  have n0 : t ≠ t + 1 := by omega
  have n2 : t + 2 ≠ t + 1 := by omega
  unfold TKF at h ⊢
  simp only [ju_c M v n0, ju_c M v n2]
  exact ⟨h.1, h.2.1, h.2.2.1, fun b k b0 b1 b2 b3 => by rw [ju_c M v b1]; exact h.2.2.2 b k b0 b1 b2 b3⟩
theorem TKF.l {T M : jm} {t : Nat} {f : Int → Int} {N C y i v : Int} (h : TKF T M t f N C y) (ht : t ≠ 14) (ht2 : t + 2 ≠ 14) : TKF T (ju M 14 i v) t f N C y := by
  unfold TKF at h ⊢
  simp only [ju_c M v ht, ju_c M v ht2]
  exact ⟨h.1, h.2.1, h.2.2.1, fun b k b0 b1 b2 b3 => by rw [ju_c M v b3]; exact h.2.2.2 b k b0 b1 b2 b3⟩
/-- the row as far as it is laid -/
noncomputable def TKR (T M : jm) (t : Nat) (f : Int → Int) (s e i o : Int) : Prop := (∀ k : Int, 0 ≤ k → k < 360 → M (t + 1) k = glay (T (t + 1)) f s e i k) ∧ o = gov (T (t + 1)) s i.toNat
theorem TKR.z {T M : jm} {t : Nat} {f : Int → Int} {s e : Int} (h : ∀ k : Int, M (t + 1) k = T (t + 1) k) : TKR T M t f s e 0 0 := ⟨fun k _ _ => by rw [h k]; unfold glay; rw [if_neg (by omega)], rfl⟩
theorem TKR.w {T M : jm} {t : Nat} {f : Int → Int} {s e i o v r : Int} (h : TKR T M t f s e i o) (hi : 0 ≤ i) (h0 : 0 ≤ s) (h1 : s + i < 360) (hv : M (t + 1) (s + i) = v) (he : v = -1) (hr : r = f (e + i)) : TKR T (ju M (t + 1) (s + i) r) t f s e (i + 1) o := by
  have q := h.1 (s + i) (by omega) h1
  unfold glay at q
  rw [if_neg (by omega), hv, he] at q
  refine ⟨fun k k0 k1 => ?_, ?_⟩
  · unfold glay
    by_cases e1 : k = s + i
    · subst e1
      rw [ju_same, if_pos ⟨by omega, by omega, q.symm⟩, hr, show e + (s + i - s) = e + i by omega]
    · rw [ju_i _ _ e1, h.1 k k0 k1]
      unfold glay
      by_cases c : s ≤ k ∧ k < s + i ∧ T (t + 1) k = -1
      · rw [if_pos c, if_pos ⟨c.1, by omega, c.2.2⟩]
      · rw [if_neg c, if_neg (by intro d; exact c ⟨d.1, by omega, d.2.2⟩)]
  · rw [gov_s hi, if_pos q.symm, h.2]; omega
theorem TKR.n {T M : jm} {t : Nat} {f : Int → Int} {s e i o v : Int} (h : TKR T M t f s e i o) (hi : 0 ≤ i) (h0 : 0 ≤ s) (h1 : s + i < 360) (hv : M (t + 1) (s + i) = v) (he : v ≠ -1) : TKR T M t f s e (i + 1) (o + 1) := by
  have q := h.1 (s + i) (by omega) h1
  unfold glay at q
  rw [if_neg (by omega), hv] at q
  refine ⟨fun k k0 k1 => ?_, ?_⟩
  · rw [h.1 k k0 k1]
    unfold glay
    by_cases c : s ≤ k ∧ k < s + i ∧ T (t + 1) k = -1
    · rw [if_pos c, if_pos ⟨c.1, by omega, c.2.2⟩]
    · rw [if_neg c, if_neg (by
        intro d
        by_cases e1 : k = s + i
        · subst e1; rw [← q] at d; exact he d.2.2
        · exact c ⟨d.1, by omega, d.2.2⟩)]
  · rw [gov_s hi, if_neg (by rw [← q]; exact he), h.2]
noncomputable def TKI (T M : jm) (t : Nat) (f : Int → Int) (N C y : Int) : Prop := TKF T M t f N C y ∧ (∀ k : Int, 0 ≤ k → k < 360 → M (t + 1) k = glay (T (t + 1)) f (ofs f N C y) (enf f N C y) (mlf (N - enf f N C y) (ofs f N C y) (lpf (wh1 f N C y (T t 7)))) k) ∧ (M 14 0 = mlf (N - enf f N C y) (ofs f N C y) (lpf (wh1 f N C y (T t 7))) - gov (T (t + 1)) (ofs f N C y) (mlf (N - enf f N C y) (ofs f N C y) (lpf (wh1 f N C y (T t 7)))).toNat ∧ M 14 1 = gov (T (t + 1)) (ofs f N C y) (mlf (N - enf f N C y) (ofs f N C y) (lpf (wh1 f N C y (T t 7)))).toNat ∧ M 14 2 = N - enf f N C y - mlf (N - enf f N C y) (ofs f N C y) (lpf (wh1 f N C y (T t 7))) ∧ M 14 3 = rbf (wh1 f N C y (T t 7)) (cm1 f N C y (T t 8)) ∧ M 14 4 = wh1 f N C y (T t 7))
theorem lpf_r (w : Int) : lpf w ≤ 360 := by
  unfold lpf
  (repeat' split) <;> omega
theorem tki {T M M2 : jm} {t : Nat} {f : Int → Int} {N C y s d i o W K v0 v1 v2 v3 v4 : Int} (ht : t ≠ 14 ∧ t + 1 ≠ 14 ∧ t + 2 ≠ 14) (h1 : TKF T M t f N C y) (h2 : TKR T M t f s (enf f N C y) i o) (hs : s = ofs f N C y) (hd : d = N - enf f N C y) (h7 : M t 7 = W) (h8 : M t 8 = K) (hi : 0 ≤ i ∧ i ≤ d) (hx : i = 0 ∨ s + i ≤ lpf W) (he : d ≤ i ∨ lpf W ≤ s + i) (e : M2 = ju (ju (ju (ju (ju M 14 0 v0) 14 1 v1) 14 2 v2) 14 3 v3) 14 4 v4) (e0 : v0 = i - o) (e1 : v1 = o) (e2 : v2 = d - i) (e3 : v3 = rbf W K) (e4 : v4 = W) : TKI T M2 t f N C y := by
  have hW : wh1 f N C y (T t 7) = W := by rw [← h7]; exact h1.1.1.symm
  have hK : cm1 f N C y (T t 8) = K := by rw [← h8]; exact h1.1.2.symm
  have hm : mlf (N - enf f N C y) (ofs f N C y) (lpf (wh1 f N C y (T t 7))) = i := by
    rw [hW, ← hs, ← hd]
    unfold mlf
    (repeat' split) <;> omega
  subst e
  refine ⟨(((((h1.l ht.1 ht.2.2).l ht.1 ht.2.2).l ht.1 ht.2.2).l ht.1 ht.2.2).l ht.1 ht.2.2), fun k k0 k1 => ?_, ?_⟩
  · rw [hm, ← hs, ju_c _ _ ht.2.1, ju_c _ _ ht.2.1, ju_c _ _ ht.2.1, ju_c _ _ ht.2.1, ju_c _ _ ht.2.1]
    exact h2.1 k k0 k1
  · rw [hm, ← hs, ← hd, hW, hK, ← h2.2]
    refine ⟨?_, ?_, ?_, ?_, ?_⟩
    · rw [ju_i _ _ (by decide), ju_i _ _ (by decide), ju_i _ _ (by decide), ju_i _ _ (by decide), ju_same]; exact e0
    · rw [ju_i _ _ (by decide), ju_i _ _ (by decide), ju_i _ _ (by decide), ju_same]; exact e1
    · rw [ju_i _ _ (by decide), ju_i _ _ (by decide), ju_same]; exact e2
    · rw [ju_i _ _ (by decide), ju_same]; exact e3
    · rw [ju_same]; exact e4
noncomputable def W_c_Gathering_takeIn_x : List (Nat × Nat) := [(15, 7), (15, 8), (15, 11), (15, 12), (15, 13), (16, 1000), (17, 1000), (41, 1000)]
end
