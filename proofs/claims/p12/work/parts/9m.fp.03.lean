section
theorem TRE.m {T H R E : jm} {x z : Int} (hn : HN6 T H x z) (fH : ∀ (a : Nat) (i : Int), a ≠ 598 → a ≠ 603 → a ≠ 604 → a ≠ 605 → H a i = T a i) (f2 : H 598 2 = T 598 2) (fR : ∀ (a : Nat) (i : Int), a ≠ 598 → R a i = H a i) (gR : ∀ (i : Int), i ≠ 59 → i ≠ 60 → i ≠ 61 → i ≠ 62 → i ≠ 63 → i ≠ 64 → i ≠ 65 → R 598 i = H 598 i) (fE : ∀ (a : Nat) (i : Int), a ≠ 598 → E a i = R a i) (gE : ∀ (i : Int), i ≠ 66 → E 598 i = R 598 i) : TRE T E (rf T x) (T 600 x) (H 598 6) x := by
  have fA : ∀ (a : Nat) (i : Int), a ≠ 598 → a ≠ 603 → a ≠ 604 → a ≠ 605 → E a i = T a i := fun a i a1 a2 a3 a4 => (fE a i a1).trans ((fR a i a1).trans (fH a i a1 a2 a3 a4))
  refine ⟨fun b i b1 b2 => fA b i (by omega) (by omega) (by omega) (by omega), ?_, ?_, rf_e (fun i => fA 601 i (by decide) (by decide) (by decide) (by decide)), fA 600 x (by decide) (by decide) (by decide) (by decide), fun i => fA 647 i (by decide) (by decide) (by decide) (by decide)⟩
  · rw [gE 2 (by decide), gR 2 (by decide) (by decide) (by decide) (by decide) (by decide) (by decide) (by decide), f2]
  · exact hn.1.q (fun b i hb => (fE b i hb).trans (fR b i hb)) ((gE 6 (by decide)).trans (gR 6 (by decide) (by decide) (by decide) (by decide) (by decide) (by decide) (by decide)))
theorem fe6_b {R E : jm} (fE : ∀ (a : Nat) (i : Int), a ≠ 598 → E a i = R a i) (gE : ∀ (i : Int), i ≠ 66 → E 598 i = R 598 i) : (∀ g : Int, sd6 E g = sd6 R g) ∧ ∀ (n : Nat) (i : Int), fe6 E n i = fe6 R n i := by
  have hs : ∀ g : Int, sd6 E g = sd6 R g := fun g => sd6_f (fun b i b1 b2 => fE b i (by omega)) (gE 59 (by decide)) (gE 60 (by decide)) (gE 61 (by decide)) (gE 62 (by decide)) (gE 63 (by decide)) (gE 64 (by decide))
  exact ⟨hs, fe6_e hs⟩
theorem EN6.e {M M1 : jm} {f : Int → Int} {N C t h : Int} (e : EN6 M f N C t h) (gE : ∀ (i : Int), i ≠ 66 → M1 598 i = M 598 i) : EN6 M1 f N C t h := by
  unfold EN6
  rw [gE 59 (by decide), gE 60 (by decide), gE 61 (by decide), gE 62 (by decide), gE 63 (by decide), gE 64 (by decide), gE 65 (by decide)]
  exact e
theorem TR6.r {T H R E : jm} {x z y g r : Int} (hx : (0 ≤ x ∧ x ≤ 23) ∧ T 600 x ≠ -1) (hz : z ≠ 0) (hn : HN6 T H x z) (fH : ∀ (a : Nat) (i : Int), a ≠ 598 → a ≠ 603 → a ≠ 604 → a ≠ 605 → H a i = T a i) (f2 : H 598 2 = T 598 2) (hy : y ≠ 0) (hr : (y = 0 ∧ ¬ qfF (rf T x) (T 600 x) (H 598 6) (H 598 65) ∧ R = H) ∨ (y = 1 ∧ qfF (rf T x) (T 600 x) (H 598 6) (H 598 65) ∧ EN6 R (rf T x) (T 600 x) (H 598 6) (H 598 65 + 1) (H 598 65 + 2))) (fR : ∀ (a : Nat) (i : Int), a ≠ 598 → R a i = H a i) (gR : ∀ (i : Int), i ≠ 59 → i ≠ 60 → i ≠ 61 → i ≠ 62 → i ≠ 63 → i ≠ 64 → i ≠ 65 → R 598 i = H 598 i) (hb : g = fe6 R 24 0) (fE : ∀ (a : Nat) (i : Int), a ≠ 598 → E a i = R a i) (gE : ∀ (i : Int), i ≠ 66 → E 598 i = R 598 i) (h : r = if g = -1 then -6 else g) : TR6 T E x r := by
  have te := TRE.m hn fH f2 fR gR fE gE
  obtain ⟨h1, ⟨h2, h3⟩, h4⟩ := hn
  rcases h4 with h4 | h4
  · exact absurd h4.2 hz
  rcases hr with hr | hr
  · exact absurd hr.1 hy
  have e5 := h4.2.2.2
  rw [e5] at hr
  refine Or.inr ⟨hx, _, h2, Or.inr (Or.inl ⟨(heG_i h3).1 h4.1, hr.2.1, E, te, hr.2.2.e gE, te.1, ?_⟩)⟩
  rw [(fe6_b fE gE).2, ← hb]
  exact h
theorem TR6.n {T H R E M' : jm} {x z y g r : Int} (hx : (0 ≤ x ∧ x ≤ 23) ∧ T 600 x ≠ -1) (hz : z ≠ 0) (hn : HN6 T H x z) (fH : ∀ (a : Nat) (i : Int), a ≠ 598 → a ≠ 603 → a ≠ 604 → a ≠ 605 → H a i = T a i) (f2 : H 598 2 = T 598 2) (hy : y = 0) (hr : (y = 0 ∧ ¬ qfF (rf T x) (T 600 x) (H 598 6) (H 598 65) ∧ R = H) ∨ (y = 1 ∧ qfF (rf T x) (T 600 x) (H 598 6) (H 598 65) ∧ EN6 R (rf T x) (T 600 x) (H 598 6) (H 598 65 + 1) (H 598 65 + 2))) (hb : g = fe6 R 24 0 ∧ (g = -1 ∨ E 598 66 = sd6 R g)) (fE : ∀ (a : Nat) (i : Int), a ≠ 598 → E a i = R a i) (gE : ∀ (i : Int), i ≠ 66 → E 598 i = R 598 i) (h : TRN E M' x r) : TR6 T M' x r := by
  rcases hr with hr | hr
  · obtain ⟨-, hq, hR⟩ := hr
    subst hR
    have te := TRE.m hn fH f2 (fun _ _ _ => rfl) (fun _ _ _ _ _ _ _ _ => rfl) fE gE
    obtain ⟨h1, ⟨h2, h3⟩, h4⟩ := hn
    rcases h4 with h4 | h4
    · exact absurd h4.2 hz
    have e5 := h4.2.2.2
    rw [e5] at hq
    refine Or.inr ⟨hx, _, h2, Or.inr (Or.inr ⟨(heG_i h3).1 h4.1, hq, E, te, h4.2.2.e gE, ?_, h⟩)⟩
    rw [(fe6_b fE gE).2, (fe6_b fE gE).1, ← hb.1]
    exact hb.2
  · omega
end
