section
theorem ga_m {M R5 : jm} {G : Nat} {g p : Int} {F : Int → Int} (L : GL M R5 G g) (n : ¬ NR6 R5 g) (hF : F = rf R5 p) (h0 : R5 617 g ≠ -1 → 0 ≤ R5 621 g) : mkA M G F = mkR R5 g p := by
  have hh := ga_h L
  obtain ⟨⟨l1, -, -, -, l1b, -⟩, l2, ⟨l3, -, l3'⟩, l4, l5, l6⟩ := L
  unfold NR6 at n
  have n1 : R5 614 g ≠ -1 := fun e => n (Or.inl e)
  have n2 : R5 617 g ≠ -1 := fun e => n (Or.inr (Or.inl e))
  have n3 : rdy (wR R5 g) (R5 614 g).toNat 0 ≠ 0 := fun e => n (Or.inr (Or.inr e))
  have w := l3'.resolve_left (by rw [l3]; exact n1)
  rw [lpf_p w, l3] at l4
  rw [l3] at w
  obtain ⟨g1, g2, g3, g4⟩ := l6 n2
  have m0 : mk0 (M (G + 2)) (M (G + 1)) F (hl2 (R5 607 g) (R5 617 g)) (R5 614 g) = mkG R5 g p := by
    unfold mkG
    rw [hF]
    have hle : hl2 (R5 607 g) (R5 617 g) ≤ R5 617 g := by
      unfold hl2
      split <;> omega
    funext k
    unfold mk0
    by_cases c1 : 0 ≤ k ∧ k < hl2 (R5 607 g) (R5 617 g)
    · rw [if_pos c1, if_pos c1]
      exact g1 k c1.1 (by omega)
    · rw [if_neg c1, if_neg c1]
      by_cases c2 : hl2 (R5 607 g) (R5 617 g) ≤ k ∧ k < hl2 (R5 607 g) (R5 617 g) + R5 614 g
      · rw [if_pos c2, if_pos c2, l4 _ (by omega) (by omega)]
        have a := rdy_a _ _ n3 (k - hl2 (R5 607 g) (R5 617 g)) (by omega) (by omega)
        unfold wR at a ⊢
        by_cases c3 : R5 616 (360 * g + (k - hl2 (R5 607 g) (R5 617 g))) ≠ 0
        · rw [if_pos c3]; rfl
        · rw [if_neg c3] at a
          exact absurd rfl a
      · rw [if_neg c2, if_neg c2]
  unfold mkA
  rw [hh, l3, m0, l1, g2, l1b]
  unfold mkF mkR
  rcases l2 with e | e
  · rw [if_pos e, if_pos e]
    obtain ⟨z1, z2⟩ := g4 e
    have hl : hl2 (R5 607 g) (R5 617 g) = R5 617 g := by rw [e]; rfl
    have at0 : mk2 (mkG R5 g p) (R5 621 g) (hl2 (R5 607 g) (R5 617 g) + R5 614 g) (R5 621 g) = R5 618 (400 * g + R5 621 g) := by
      unfold mk2
      rw [ptn_o (by omega), ptn_o (by omega)]
      unfold mkG mk0
      have := h0 n2
      rw [if_pos (by rw [hl]; omega)]
      rfl
    rw [at0, show hl2 (R5 607 g) (R5 617 g) - R5 621 g = 4 * (R5 618 (400 * g + R5 621 g) % 16) by rw [hl]; omega]
  · obtain ⟨z1, z2⟩ := g3 e
    rw [if_neg (by omega), if_neg (by omega), z1, z2]
end
section
/-! ===== gather: both sides answer alike ===== -/
theorem RDp.n {C D R : jm} (h : RDp C R) (n : NH C D) : RDp D R := fun p p0 p1 => by
  have k := kP p0 p1
  have x := xpk (g := p) ⟨p0, p1⟩
  refine ⟨?_, fun i i0 i1 => ?_⟩
  · rw [n _ 1 (by rw [k.1]; decide) (by omega)]; exact (h p p0 p1).1
  · rw [n _ i (by rw [k.2]; decide) (by omega)]; exact (h p p0 p1).2 i i0 i1
theorem RDl.n {C D R : jm} (h : RDl C R) (n : NH C D) : RDl D R := fun i i0 i1 => by
  rw [n 14 i (by decide) (by decide)]
  exact h i i0 i1
/-- a gathering is found or begun -/
theorem ga_b {M2 M3 R1 Rb : jm} {f : Int → Int} {N C y g g2 Z : Int} (h : RDg M2 R1) (gb : GBG M2 M3 g Z) (g6' : GB6 R1 Rb f N C y g2) (nm : NM5 M2 f N C y) (hk : kA f N C y = hX f N y) (k26 : hX f N y = 2 ∨ hX f N y = 6) (hZ : Z = R1 598 2) : (g = g2 ∧ 0 ≤ g ∧ g < 8) ∧ GL M3 Rb (xe 10 g) g ∧ (M3 (xe 10 g) 0 = Rb 606 g ∧ Rb 606 g ≠ 0) ∧ (Rb 607 g = hX f N y ∧ Rb 611 g = vA f N C y (if kA f N C y = 2 then 7 else 0)) ∧ (fst6 R1 f N C y = 1 ↔ M3 (xe 10 g) 7 = -1) ∧ UN Rb ∧ (∀ (b : Nat) (k : Int), b ≠ xe 10 g → b ≠ xe 10 g + 1 → M3 b k = M2 b k) ∧ (∀ (b : Nat) (j : Int), b ≠ 616 → j ≠ g → Rb b j = R1 b j) ∧ (∀ j : Int, (j < 360 * g ∨ 360 * g + 360 ≤ j) → Rb 616 j = R1 616 j) ∧ (∀ (b : Nat) (j : Int), b < 606 ∨ 617 < b ∨ b = 615 → Rb b j = R1 b j) := by
  obtain ⟨n1, n2, n3, n4, n5⟩ := nm
  rw [hk] at n1
  have gs : gS M2 8 0 = g6 R1 f N C y := ga_s h n1 n2 n3 n4 n5
  have sp := gL_p R1 (hX f N y) (adf f N C (ntf f N C) 0) (adf f N C (ntf f N C) 1) (vA f N C y 3) (vA f N C y (if kA f N C y = 2 then 7 else 0)) 8
  have ge := ga_e h 8 0 (by decide) (by decide)
  unfold GBG at gb
  rw [gs, ge] at gb
  rcases gb with ⟨a1, a2, a3⟩ | ⟨a1, a2, a3, a4⟩ <;> rcases g6' with ⟨b1, b2, b3⟩ | ⟨b1, b2, b3, b4⟩
  · subst a3
    subst b3
    have s := sp.resolve_left (fun u => a1 u.1)
    rw [show gL Rb (hX f N y) (adf f N C (ntf f N C) 0) (adf f N C (ntf f N C) 1) (vA f N C y 3) (vA f N C y (if kA f N C y = 2 then 7 else 0)) 8 = g from a2.symm] at s
    have q := h.2 g s.1.1 (by omega)
    refine ⟨⟨a2.trans b2.symm, s.1.1, by omega⟩, q.2 s.2.1, ⟨q.1, s.2.1⟩, ⟨s.2.2.1, s.2.2.2.2.2.2⟩, ?_, h.1, fun _ _ _ _ => rfl, fun _ _ _ _ => rfl, fun _ _ => rfl, fun _ _ _ => rfl⟩
    have w := (q.2 s.2.1).2.2.1.1
    unfold fst6
    rw [← a2, w]
    by_cases c : Rb 614 g = -1
    · rw [if_pos (Or.inr c)]
      exact ⟨fun _ => c, fun _ => rfl⟩
    · rw [if_neg (by omega)]
      exact ⟨fun u => absurd u (by decide), fun u => absurd u c⟩
  · exact absurd b1 a1
  · exact absurd a1 b1
  · have r := (gE_r R1 8 0 (by decide)).resolve_left (by rw [← a2]; exact a3)
    rw [← a2] at r
    have eg : g = g2 := a2.trans b2.symm
    rw [← eg] at b4
    obtain ⟨⟨c0, c1, c2, c3, c4, c5, c6, c7, c8, c9⟩, c10, c11⟩ := a4
    obtain ⟨⟨d0, d1, d2, d3, d4, d5, d6, d7, d8⟩, d9, d10, d11, d12, d13⟩ := b4
    have no := (sp.resolve_right (fun u => by
      have : g6 R1 f N C y = gL R1 (hX f N y) (adf f N C (ntf f N C) 0) (adf f N C (ntf f N C) 1) (vA f N C y 3) (vA f N C y (if kA f N C y = 2 then 7 else 0)) 8 := rfl
      omega)).2
    refine ⟨⟨eg, r.1.1, by omega⟩, ⟨⟨by rw [c1, d1, n1], by rw [c2, d5, n2], by rw [c3, d6, n3], by rw [c4, d7, n4], by rw [c5, d8, n5], by rw [c6, d9, hZ]⟩, by rw [d1]; exact k26, ⟨by rw [c7, d2], by rw [c7, c8, d4]; rfl, Or.inl c7⟩, fun k k0 k1 => ?_, by rw [c9, d3], fun u => absurd d3 u⟩, ⟨by rw [c0, d0], by rw [d0]; decide⟩, ⟨d1, d8⟩, ?_, ?_, c11, d10, d11, d13⟩
    · rw [c7] at k1
      have l : lpf (-1) = 360 := rfl
      rw [c10 k k0 (by omega)]
      unfold wR
      rw [if_neg (by rw [d12 k k0 (by omega)]; decide)]
    · unfold fst6
      rw [if_pos (Or.inl b1)]
      exact ⟨fun _ => c7, fun _ => rfl⟩
    · intro i j i0 i1 j0 j1 u v w
      by_cases e1 : i = g
      · by_cases e2 : j = g
        · omega
        · exfalso
          rw [e1] at w
          rw [d10 607 j (by decide) e2, d10 608 j (by decide) e2, d10 609 j (by decide) e2, d10 610 j (by decide) e2, d10 611 j (by decide) e2, d1, d5, d6, d7, d8] at w
          rw [d10 606 j (by decide) e2] at v
          exact no j j0 j1 ⟨v, w.1.symm, w.2.1.symm, w.2.2.1.symm, w.2.2.2.1.symm, w.2.2.2.2.symm⟩
      · by_cases e2 : j = g
        · exfalso
          rw [e2] at w
          rw [d10 607 i (by decide) e1, d10 608 i (by decide) e1, d10 609 i (by decide) e1, d10 610 i (by decide) e1, d10 611 i (by decide) e1, d1, d5, d6, d7, d8] at w
          rw [d10 606 i (by decide) e1] at u
          exact no i i0 i1 ⟨u, w⟩
        · rw [d10 606 i (by decide) e1] at u
          rw [d10 606 j (by decide) e2] at v
          rw [d10 607 i (by decide) e1, d10 608 i (by decide) e1, d10 609 i (by decide) e1, d10 610 i (by decide) e1, d10 611 i (by decide) e1, d10 607 j (by decide) e2, d10 608 j (by decide) e2, d10 609 j (by decide) e2, d10 610 j (by decide) e2, d10 611 j (by decide) e2] at w
          exact h.1 i j i0 i1 j0 j1 u v w
/-- the packet is made, or not yet -/
theorem ga_z {M D R5 S : jm} {g r r2 : Int} {F : Int → Int → Int} (hg : 0 ≤ g ∧ g < 8) (L : GL M R5 (xe 10 g) g) (l0 : M (xe 10 g) 0 = R5 606 g) (hp : RDp M R5) (hF : ∀ p : Int, F p = rf R5 p) (h0 : R5 617 g ≠ -1 → 0 ≤ R5 621 g) (p : (NRD M (xe 10 g) ∧ r = -1 ∧ D = M) ∨ (¬ NRD M (xe 10 g) ∧ PTO M D (xe 10 g) F r)) (q : FIN R5 S g r2) : r = r2 ∧ RDp D S ∧ GR1 D S (xe 10 g) g ∧ (∀ (b : Nat) (k : Int), (b < 526 ∨ 573 < b) → b ≠ xe 10 g → D b k = M b k) ∧ (∀ j : Int, j ≠ g → S 606 j = R5 606 j) ∧ (S 606 g = 0 ∨ S 606 g = R5 606 g) := by
  have nn := ga_n L
  have hh := ga_h L
  have pp := ga_p hp 24 0 (by decide) (by decide)
  have x := xgx hg
  have w3 : M (xe 10 g) 7 = R5 614 g := L.2.2.1.1
  rcases p with ⟨p1, p2, p3⟩ | ⟨p1, p2⟩ <;> rcases q with ⟨q1, q2, q3⟩ | ⟨q1, q2, q3, q4⟩ | ⟨q1, q2, q3, q4, q5, q6, q7⟩
  · rw [p3, q3]
    exact ⟨by omega, hp, ⟨l0, fun _ => L⟩, fun _ _ _ _ => rfl, fun _ _ => rfl, Or.inr rfl⟩
  · exact absurd (nn.1 p1) q1
  · exact absurd (nn.1 p1) q1
  · exact absurd (nn.2 q1) p1
  · unfold PTO at p2
    rw [pp, hh, w3] at p2
    rcases p2 with ⟨c1, c2, c3⟩ | ⟨c1, c2⟩
    · rw [c3, q4]
      exact ⟨by omega, hp, ⟨l0, fun _ => L⟩, fun _ _ _ _ => rfl, fun _ _ => rfl, Or.inr rfl⟩
    · omega
  · unfold PTO at p2
    rw [pp, hh, w3] at p2
    rcases p2 with ⟨c1, c2, c3⟩ | ⟨c1, c2, M1, ⟨m1, m2, m3, m4⟩, c3⟩
    · omega
    · have rp := (pF_r M 24 0 (by decide)).resolve_left (by rw [pp]; exact c1.1)
      rw [pp, ← q3] at rp
      rw [← q3] at m1 m2 m3 m4 c2
      have xp := xpk (g := r2) ⟨by omega, by omega⟩
      have dM : ∀ (b : Nat) (k : Int), b ≠ xe 10 g → D b k = M1 b k := fun b k hb => by rw [c3, ju_c _ _ hb]
      rw [ga_m L q1 (hF r2) h0] at m1
      refine ⟨c2, ?_, ⟨?_, fun u => absurd q4.2.1 u⟩, fun b k h1 h2 => (dM b k h2).trans (m4 b k (by omega) (by omega)), q7, Or.inl q4.2.1⟩
      · refine rdp_bytes hp (x := r2) (g := mkR R5 g r2) (g2 := mkR R5 g r2) (by omega) (fun b b0 b1 => ?_) (fun i i0 i1 => ?_) (fun i i0 i1 => ?_) (fun _ _ _ => rfl) (fun b b0 b1 e i => ?_) q5
        · have xb := xpk (g := b) ⟨b0, b1⟩
          rw [dM _ 1 (by omega)]
          by_cases e : b = r2
          · rw [e, m2, q4.1]
          · rw [m4 _ 1 (by omega) (by omega), q6 b e]
            exact (hp b b0 b1).1
        · rw [dM _ i (by omega)]
          exact (m1 i i0 i1).1
        · exact congrFun q4.2.2 i
        · have xb := xpk (g := b) ⟨b0, b1⟩
          rw [dM _ i (by omega), m4 _ i (by omega) (by omega)]
      · rw [c3, ju_same, q4.2.1]
end
