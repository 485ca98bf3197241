section
theorem RWS.u {T M : jm} {t a : Nat} {f : Int → Int} {y i v : Int} (h : RWS T M t f y i) (ha : t < a ∧ a ≤ t + 7) (ht : 18 ≤ t) : RWS T (ju M a i v) t f y i := by
  refine ⟨?_, h.2.1.u (by omega), fun s s0 s1 => (h.2.2.1 s s0 s1).u (by omega), h.2.2.2.u (by omega)⟩
  rw [ju1_row (show (1 : Nat) ≠ a by omega)]
  exact h.1
theorem RWS.b {T M : jm} {t : Nat} {f : Int → Int} {y i p w a c : Int} (h : RWS T M t f y i) (ht : 18 ≤ t) (hp : p = tPt f y i) (hw : w = tWn f y i) (ha : a = tAd f y i) (hc : c = tHl f y i) : RWB T (ju (ju (ju (ju M (t + 2) i p) (t + 5) i w) (t + 1) i a) (t + 4) i c) t f y i := by
  refine ⟨(((h.u (by omega) ht).u (by omega) ht).u (by omega) ht).u (by omega) ht, ?_, ?_, ?_, ?_⟩
  · rw [ju_c _ _ (by omega), ju_c _ _ (by omega), ju_c _ _ (by omega), ju_same]; exact hp
  · rw [ju_c _ _ (by omega), ju_c _ _ (by omega), ju_same]; exact hw
  · rw [ju_c _ _ (by omega), ju_same]; exact ha
  · rw [ju_same]; exact hc
theorem rS1.u {M : jm} {t a : Nat} {f : Int → Int} {y s i v : Int} (h : rS1 M t f y s) (ha : t + 2 ≠ a ∧ t + 5 ≠ a ∧ t + 1 ≠ a ∧ t + 4 ≠ a) : rS1 (ju M a i v) t f y s := by
  unfold rS1 at h ⊢
  rw [ju_c _ _ ha.1, ju_c _ _ ha.2.1, ju_c _ _ ha.2.2.1, ju_c _ _ ha.2.2.2]
  exact h
theorem RWB.c {T M : jm} {t : Nat} {f : Int → Int} {y i l : Int} (h : RWB T M t f y i) (ht : 18 ≤ t) (hl : l = tLa f y i) : RWC T (ju M (t + 3) i l) t f y i := ⟨⟨h.1.u (by omega) ht, h.2.u (by omega)⟩, (ju_same _ _ _ _).trans hl⟩
theorem RWC.d {T M : jm} {t : Nat} {f : Int → Int} {y i l : Int} (h : RWC T M t f y i) (ht : 18 ≤ t) (hl : l = tPk f y i) : RWD T (ju M (t + 6) i l) t f y i := ⟨⟨⟨h.1.1.u (by omega) ht, h.1.2.u (by omega)⟩, (ju_c _ _ (by omega)).trans h.2⟩, (ju_same _ _ _ _).trans hl⟩
theorem RWD.e {T M : jm} {t : Nat} {f : Int → Int} {y i l : Int} (h : RWD T M t f y i) (ht : 18 ≤ t) (hl : l = tBy f y i) : RWS T (ju M (t + 7) i l) t f y (i + 1) := by
  have q := h.1.1.1.u (a := t + 7) (v := l) (by omega) ht
  refine ⟨q.1, q.2.1, fun s s0 s1 => ?_, q.2.2.2⟩
  by_cases e : s = i
  · subst e
    exact ⟨h.1.1.2.u (by omega), (ju_c _ _ (by omega)).trans h.1.2, (ju_c _ _ (by omega)).trans h.2, (ju_same _ _ _ _).trans hl⟩
  · exact q.2.2.1 s s0 (by omega)
theorem RWS.e {T M : jm} {t : Nat} {f : Int → Int} {y c : Int} (h : RWS T M t f y 2) (ht : 18 ≤ t) (hc : c = f (y + 1) / 128 % 2) : RWE T (ju M t 12 c) t f y := by
  refine ⟨⟨?_, ?_, fun s s0 s1 => ?_, h.2.2.2.u (by omega)⟩, (ju_same _ _ _ _).trans hc⟩
  · rw [ju1_row (show (1 : Nat) ≠ t by omega)]; exact h.1
  · have q := h.2.1
    unfold RR0 at q ⊢
    rw [ju_i _ _ (by decide), ju_i _ _ (by decide), ju_i _ _ (by decide), ju_i _ _ (by decide), ju_i _ _ (by decide), ju_i _ _ (by decide)]
    exact q
  · have q := h.2.2.1 s s0 s1
    unfold rSA rS1 at q ⊢
    simp only [ju_c _ _ (show t + 1 ≠ t by omega), ju_c _ _ (show t + 2 ≠ t by omega), ju_c _ _ (show t + 3 ≠ t by omega), ju_c _ _ (show t + 4 ≠ t by omega), ju_c _ _ (show t + 5 ≠ t by omega), ju_c _ _ (show t + 6 ≠ t by omega), ju_c _ _ (show t + 7 ≠ t by omega)]
    exact q
theorem RWE.d {T M : jm} {t : Nat} {f : Int → Int} {y v Z : Int} (h : RWE T M t f y) (ht : 18 ≤ t) (hv : v = Z + (if nbs f (y + 34) 4 ≤ 200 then nbs f (y + 34) 4 else 200)) : RRD (ju M t 6 v) t f y Z ∧ fr7 T (ju M t 6 v) t ∧ ju M t 6 v 1 = f := by
  refine ⟨⟨?_, fun s s0 s1 => ?_, ?_, (ju_same _ _ _ _).trans hv⟩, h.1.2.2.2.u (by omega), ?_⟩
  · have q := h.1.2.1
    unfold RR0 at q ⊢
    rw [ju_i _ _ (by decide), ju_i _ _ (by decide), ju_i _ _ (by decide), ju_i _ _ (by decide), ju_i _ _ (by decide), ju_i _ _ (by decide)]
    exact q
  · have q := h.1.2.2.1 s s0 s1
    unfold rSA rS1 at q ⊢
    simp only [ju_c _ _ (show t + 1 ≠ t by omega), ju_c _ _ (show t + 2 ≠ t by omega), ju_c _ _ (show t + 3 ≠ t by omega), ju_c _ _ (show t + 4 ≠ t by omega), ju_c _ _ (show t + 5 ≠ t by omega), ju_c _ _ (show t + 6 ≠ t by omega), ju_c _ _ (show t + 7 ≠ t by omega)]
    exact q
  · rw [ju_i _ _ (by decide)]; exact h.2
  · rw [ju1_row (show (1 : Nat) ≠ t by omega)]; exact h.1.1
theorem RRD.fr {T M : jm} {t x : Nat} {f : Int → Int} {y Z : Int} (h : RRD T t f y Z) (g : fr7 T M x) (hx : t + 7 < x ∨ x + 7 < t) : RRD M t f y Z := by
  unfold RRD RR0 rSA rS1 at h ⊢
  simp only [g t _ (by omega), g (t + 1) _ (by omega), g (t + 2) _ (by omega), g (t + 3) _ (by omega), g (t + 4) _ (by omega), g (t + 5) _ (by omega), g (t + 6) _ (by omega), g (t + 7) _ (by omega)]
  exact h
theorem RRD.like {M : jm} {t x : Nat} {f : Int → Int} {a b Z Z2 : Int} (h : RRD M t f a Z) (h2 : RRD M x f b Z2) : sdF M t x ≠ -1 ↔ rLike f a b := by
  obtain ⟨⟨g0, g1, g2, g3, g4, g5⟩, gs, -, -⟩ := h
  obtain ⟨⟨k0, k1, k2, k3, k4, k5⟩, ks, -, -⟩ := h2
  have ga := gs 0 (by decide) (by decide)
  have gb := gs 1 (by decide) (by decide)
  have ka := ks 0 (by decide) (by decide)
  have kb := ks 1 (by decide) (by decide)
  unfold sdF rLike
  rw [g0, g1, g2, g4, k1, k2, ga.1.1, ga.1.2.2.1, gb.1.1, gb.1.2.2.1, ka.1.1, ka.1.2.2.1, kb.1.1, kb.1.2.2.1]
  constructor
  · intro u
    split at u
    · omega
    · rename_i u0
      split at u
      · rename_i u1
        exact ⟨by omega, Or.inl ⟨⟨u1.1.2.symm, u1.2.2.symm⟩, u1.1.1.symm, u1.2.1.symm⟩⟩
      · split at u
        · rename_i u1
          refine ⟨by omega, Or.inr ?_⟩
          rcases u1.1 with u2 | u2
          · exact ⟨⟨u2.2.2.symm, u1.2.2.symm⟩, u2.2.1.symm, u1.2.1.symm⟩
          · exact absurd rfl u2.1
        · omega
  · rintro ⟨⟨e1, e2⟩, e3⟩
    rw [if_neg (by omega)]
    rcases e3 with e3 | e3
    · rw [if_pos ⟨⟨e3.2.1.symm, e3.1.1.symm⟩, e3.2.2.symm, e3.1.2.symm⟩]
      decide
    · split
      · decide
      · rw [if_pos ⟨Or.inl ⟨rfl, e3.2.1.symm, e3.1.1.symm⟩, e3.2.2.symm, e3.1.2.symm⟩]
        decide
end

