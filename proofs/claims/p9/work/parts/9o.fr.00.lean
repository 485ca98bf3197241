/-! ===== the reference: track ===== -/
noncomputable def heG (f : Int → Int) (N C : Int) : Prop := hX f N C = -1 ∧ heF f N C 0
theorem heG_i {f : Int → Int} {N C F : Int} (h : F = 0 ↔ hX f N C = -1) : heF f N C F ↔ heG f N C := by
  unfold heG heF
  constructor
  · intro u; exact ⟨h.1 u.1, rfl, u.2⟩
  · intro u; exact ⟨h.2 u.1, u.2.2⟩
noncomputable def SFl (T M : jm) : Prop := ∀ (b : Nat) (i : Int), 627 ≤ b → b ≤ 642 → M b i = T b i
theorem sd6_f {M M1 : jm} {g : Int} (h : ∀ (b : Nat) (i : Int), 627 ≤ b → b ≤ 642 → M1 b i = M b i) (h9 : M1 598 59 = M 598 59) (h0 : M1 598 60 = M 598 60) (h1 : M1 598 61 = M 598 61) (h2 : M1 598 62 = M 598 62) (h3 : M1 598 63 = M 598 63) (h4 : M1 598 64 = M 598 64) : sd6 M1 g = sd6 M g := by
  unfold sd6
  simp only [h9, h0, h1, h2, h3, h4, h 627 _ (by decide) (by decide), h 628 _ (by decide) (by decide), h 629 _ (by decide) (by decide), h 630 _ (by decide) (by decide), h 631 _ (by decide) (by decide), h 640 _ (by decide) (by decide), h 641 _ (by decide) (by decide), h 642 _ (by decide) (by decide)]
theorem fe6_e {M M1 : jm} (h : ∀ g : Int, sd6 M1 g = sd6 M g) : ∀ (n : Nat) (i : Int), fe6 M1 n i = fe6 M n i := by
  intro n
  induction n with
  | zero => intro i; rfl
  | succ n ih => intro i; unfold fe6; rw [h, ih]
noncomputable def OBF (E B : jm) : Prop := ∀ (a : Nat) (i : Int), a ≠ 627 → a ≠ 628 → a ≠ 629 → a ≠ 630 → a ≠ 631 → a ≠ 632 → a ≠ 633 → a ≠ 634 → a ≠ 635 → a ≠ 636 → a ≠ 637 → a ≠ 640 → B a i = E a i
noncomputable def OFG (E B : jm) : Prop := ∀ (a : Nat) (i : Int), a ≠ 632 → a ≠ 633 → a ≠ 634 → a ≠ 635 → a ≠ 636 → a ≠ 637 → B a i = E a i
noncomputable def clE (E : jm) (x : Int) : Int := scf (E 601 (400 * x + (E 604 (E 598 65) + 13)))
noncomputable def mayE (E : jm) (x : Int) : Prop := (E 598 60 = 6 ∧ clE E x = 0) ∨ (E 598 60 ≠ 6 ∧ (E 598 60 = 17 ∨ E 601 (400 * x + E 604 (E 598 65)) = 8))
noncomputable def afE (E : jm) (x g : Int) : Int := if clE E x = 5 then 0 else E 647 (10 * (E 638 g - 1) + 5 * E 598 66 + clE E x)
noncomputable def u7E (E : jm) (g : Int) : Int := if E 598 60 = 17 ∧ (E 598 66 = 1 ∨ E 638 g = 1) then 1 else 0
noncomputable def K6 (B : jm) (g n t st : Int) : jm := ju (ju B 638 g st) 639 g (t + lvf n st)
/-- a packet that isn't related, behind the search for its flow -/
noncomputable def TRN (E M' : jm) (x r : Int) : Prop := (fe6 E 24 0 = -1 ∧ ((¬ mayE E x ∧ r = -6 ∧ M' = E) ∨ (mayE E x ∧ fE6 E 24 0 = -1 ∧ r = -5 ∧ M' = E) ∨ (mayE E x ∧ fE6 E 24 0 ≠ -1 ∧ r = fE6 E 24 0 ∧ ∃ B : jm, BF6 E B r ∧ OBF E B ∧ CT6 (K6 (ju B 598 66 0) r (E 598 60) (E 598 2) (if E 598 60 = 6 then 1 else 0)) M' x r (2 * r + 0)))) ∨ (fe6 E 24 0 ≠ -1 ∧ ((E 598 60 = 6 ∧ afE E x (fe6 E 24 0) = 0 ∧ r = -7 ∧ M' = E) ∨ (E 598 60 = 6 ∧ afE E x (fe6 E 24 0) ≠ 0 ∧ io6 E x (fe6 E 24 0) (clE E x) = 1 ∧ r = -8 ∧ M' = E) ∨ (E 598 60 = 6 ∧ afE E x (fe6 E 24 0) ≠ 0 ∧ io6 E x (fe6 E 24 0) (clE E x) ≠ 1 ∧ r = fe6 E 24 0 ∧ ∃ B : jm, (((9 ≤ E 638 r ∧ E 598 66 = 0 ∧ clE E x = 0) ∧ FG6 E B r (2 * r + 2) ∧ OFG E B) ∨ (¬ (9 ≤ E 638 r ∧ E 598 66 = 0 ∧ clE E x = 0) ∧ B = E)) ∧ CT6 (K6 B r (E 598 60) (E 598 2) (afE E x r)) M' x r (2 * r + E 598 66)) ∨ (E 598 60 ≠ 6 ∧ r = fe6 E 24 0 ∧ CT6 (K6 E r (E 598 60) (E 598 2) (u7E E r)) M' x r (2 * r + E 598 66))))
noncomputable def TRE (T E : jm) (f : Int → Int) (N C x : Int) : Prop := SFl T E ∧ E 598 2 = T 598 2 ∧ HT E f N C ∧ rf E x = f ∧ E 600 x = N ∧ (∀ i : Int, E 647 i = T 647 i)
noncomputable def TR7 (T M' : jm) (f : Int → Int) (N C x r : Int) : Prop := (¬ heG f N C ∧ r = -4 ∧ SFl T M') ∨ (heG f N C ∧ qfF f N C (inf f N C (ntf f N C)) ∧ ∃ E : jm, TRE T E f N C x ∧ EN6 E f N C (inf f N C (ntf f N C) + 1) (inf f N C (ntf f N C) + 2) ∧ SFl T M' ∧ r = (if fe6 E 24 0 = -1 then -6 else fe6 E 24 0)) ∨ (heG f N C ∧ ¬ qfF f N C (inf f N C (ntf f N C)) ∧ ∃ E : jm, TRE T E f N C x ∧ EN6 E f N C (ntf f N C) (inf f N C (ntf f N C)) ∧ (fe6 E 24 0 = -1 ∨ E 598 66 = sd6 E (fe6 E 24 0)) ∧ TRN E M' x r)
noncomputable def TR6 (T M' : jm) (x r : Int) : Prop := ((x < 0 ∨ 23 < x ∨ T 600 x = -1) ∧ r = -2 ∧ M' = T) ∨ (((0 ≤ x ∧ x ≤ 23) ∧ T 600 x ≠ -1) ∧ ∃ C : Int, HE (rf T x) (T 600 x) C ∧ TR7 T M' (rf T x) (T 600 x) C x r)
theorem TR6.h0 {T H : jm} {x z : Int} (hx : (0 ≤ x ∧ x ≤ 23) ∧ T 600 x ≠ -1) (hz : z = 0) (hn : HN6 T H x z) (fH : ∀ (a : Nat) (i : Int), a ≠ 598 → a ≠ 603 → a ≠ 604 → a ≠ 605 → H a i = T a i) : TR6 T H x (-4) := by
  obtain ⟨h1, ⟨h2, h3⟩, h4⟩ := hn
  refine Or.inr ⟨hx, _, h2, Or.inl ⟨?_, rfl, fun b i b1 b2 => fH b i (by omega) (by omega) (by omega) (by omega)⟩⟩
  rw [← heG_i h3]
  rcases h4 with h4 | h4
  · exact h4.1
  · omega
theorem TRE.m {T H R E : jm} {x z : Int} (hn : HN6 T H x z) (fH : ∀ (a : Nat) (i : Int), a ≠ 598 → a ≠ 603 → a ≠ 604 → a ≠ 605 → H a i = T a i) (f2 : H 598 2 = T 598 2) (fR : ∀ (a : Nat) (i : Int), a ≠ 598 → R a i = H a i) (gR : ∀ (i : Int), i ≠ 59 → i ≠ 60 → i ≠ 61 → i ≠ 62 → i ≠ 63 → i ≠ 64 → i ≠ 65 → R 598 i = H 598 i) (fE : ∀ (a : Nat) (i : Int), a ≠ 598 → E a i = R a i) (gE : ∀ (i : Int), i ≠ 66 → E 598 i = R 598 i) : TRE T E (rf T x) (T 600 x) (H 598 6) x := by
  have fA : ∀ (a : Nat) (i : Int), a ≠ 598 → a ≠ 603 → a ≠ 604 → a ≠ 605 → E a i = T a i := fun a i a1 a2 a3 a4 => (fE a i a1).trans ((fR a i a1).trans (fH a i a1 a2 a3 a4))
  refine ⟨fun b i b1 b2 => fA b i (by omega) (by omega) (by omega) (by omega), ?_, ?_, rf_e (fun i => fA 601 i (by decide) (by decide) (by decide) (by decide)), fA 600 x (by decide) (by decide) (by decide) (by decide), fun i => fA 647 i (by decide) (by decide) (by decide) (by decide)⟩
  · rw [gE 2 (by decide), gR 2 (by decide) (by decide) (by decide) (by decide) (by decide) (by decide) (by decide), f2]
  · exact hn.1.q (fun b i hb => (fE b i hb).trans (fR b i hb)) ((gE 6 (by decide)).trans (gR 6 (by decide) (by decide) (by decide) (by decide) (by decide) (by decide) (by decide)))
theorem fe6_b {R E : jm} (fE : ∀ (a : Nat) (i : Int), a ≠ 598 → E a i = R a i) (gE : ∀ (i : Int), i ≠ 66 → E 598 i = R 598 i) : (∀ g : Int, sd6 E g = sd6 R g) ∧ ∀ (n : Nat) (i : Int), fe6 E n i = fe6 R n i := by
  have hs : ∀ g : Int, sd6 E g = sd6 R g := fun g => sd6_f (fun b i b1 b2 => fE b i (by omega)) (gE 59 (by decide)) (gE 60 (by decide)) (gE 61 (by decide)) (gE 62 (by decide)) (gE 63 (by decide)) (gE 64 (by decide))
  exact ⟨hs, fe6_e hs⟩
theorem EN6.e {M M1 : jm} {f : Int → Int} {N C t h : Int} (e : EN6 M f N C t h) (gE : ∀ (i : Int), i ≠ 66 → M1 598 i = M 598 i) : EN6 M1 f N C t h := by
  unfold EN6
  rw [gE 59 (by decide), gE 60 (by decide), gE 61 (by decide), gE 62 (by decide), gE 63 (by decide), gE 64 (by decide), gE 65 (by decide)]
  exact e
theorem TR6.r {T H R E : jm} {x z y g r : Int} (hx : (0 ≤ x ∧ x ≤ 23) ∧ T 600 x ≠ -1) (hz : z ≠ 0) (hn : HN6 T H x z) (fH : ∀ (a : Nat) (i : Int), a ≠ 598 → a ≠ 603 → a ≠ 604 → a ≠ 605 → H a i = T a i) (f2 : H 598 2 = T 598 2) (hy : y ≠ 0) (hr : (y = 0 ∧ ¬ qfF (rf T x) (T 600 x) (H 598 6) (H 598 65) ∧ R = H) ∨ (y = 1 ∧ qfF (rf T x) (T 600 x) (H 598 6) (H 598 65) ∧ EN6 R (rf T x) (T 600 x) (H 598 6) (H 598 65 + 1) (H 598 65 + 2))) (fR : ∀ (a : Nat) (i : Int), a ≠ 598 → R a i = H a i) (gR : ∀ (i : Int), i ≠ 59 → i ≠ 60 → i ≠ 61 → i ≠ 62 → i ≠ 63 → i ≠ 64 → i ≠ 65 → R 598 i = H 598 i) (hb : g = fe6 R 24 0) (fE : ∀ (a : Nat) (i : Int), a ≠ 598 → E a i = R a i) (gE : ∀ (i : Int), i ≠ 66 → E 598 i = R 598 i) (h : r = if g = -1 then -6 else g) : TR6 T E x r := by
  have te := TRE.m hn fH f2 fR gR fE gE
  obtain ⟨h1, ⟨h2, h3⟩, h4⟩ := hn
  rcases h4 with h4 | h4
  · exact absurd h4.2 hz
  rcases hr with hr | hr
  · exact absurd hr.1 hy
  have e5 := h4.2.2.2
  rw [e5] at hr
  refine Or.inr ⟨hx, _, h2, Or.inr (Or.inl ⟨(heG_i h3).1 h4.1, hr.2.1, E, te, hr.2.2.e gE, te.1, ?_⟩)⟩
  rw [(fe6_b fE gE).2, ← hb]
  exact h
theorem TR6.n {T H R E M' : jm} {x z y g r : Int} (hx : (0 ≤ x ∧ x ≤ 23) ∧ T 600 x ≠ -1) (hz : z ≠ 0) (hn : HN6 T H x z) (fH : ∀ (a : Nat) (i : Int), a ≠ 598 → a ≠ 603 → a ≠ 604 → a ≠ 605 → H a i = T a i) (f2 : H 598 2 = T 598 2) (hy : y = 0) (hr : (y = 0 ∧ ¬ qfF (rf T x) (T 600 x) (H 598 6) (H 598 65) ∧ R = H) ∨ (y = 1 ∧ qfF (rf T x) (T 600 x) (H 598 6) (H 598 65) ∧ EN6 R (rf T x) (T 600 x) (H 598 6) (H 598 65 + 1) (H 598 65 + 2))) (hb : g = fe6 R 24 0 ∧ (g = -1 ∨ E 598 66 = sd6 R g)) (fE : ∀ (a : Nat) (i : Int), a ≠ 598 → E a i = R a i) (gE : ∀ (i : Int), i ≠ 66 → E 598 i = R 598 i) (h : TRN E M' x r) : TR6 T M' x r := by
  rcases hr with hr | hr
  · obtain ⟨-, hq, hR⟩ := hr
    subst hR
    have te := TRE.m hn fH f2 (fun _ _ _ => rfl) (fun _ _ _ _ _ _ _ _ => rfl) fE gE
    obtain ⟨h1, ⟨h2, h3⟩, h4⟩ := hn
    rcases h4 with h4 | h4
    · exact absurd h4.2 hz
    have e5 := h4.2.2.2
    rw [e5] at hq
    refine Or.inr ⟨hx, _, h2, Or.inr (Or.inr ⟨(heG_i h3).1 h4.1, hq, E, te, h4.2.2.e gE, ?_, h⟩)⟩
    rw [(fe6_b fE gE).2, (fe6_b fE gE).1, ← hb.1]
    exact hb.2
  · omega
