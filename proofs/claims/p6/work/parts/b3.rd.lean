/-! ===== both sides answer alike: ends, turn, track ===== -/
theorem HT.y {M : jm} {f : Int → Int} {N C x : Int} (h : HT M f N C) (hx : 0 ≤ x ∧ x < C) : 0 ≤ hY f N x := by
  have q := hst_y h.2.2.2 h.2.2.1.2 x.toNat (fun i i0 i1 => (h.2.1 i i0 (by omega)).1)
  rw [Int.toNat_of_nonneg hx.1] at q
  exact q
/-- the ends that both sides hold -/
def EQE (E E6 : jm) : Prop := (E 18 1 = E6 598 59 ∧ E 18 2 = E6 598 60) ∧ (E (18 + 1) 0 = E6 598 61 ∧ E (18 + 1) 1 = E6 598 62) ∧ E (18 + 2) 0 = E6 598 63 ∧ E (18 + 2) 1 = E6 598 64
theorem eqe {E E6 : jm} {f : Int → Int} {N C t h : Int} (a : E2F E f N C t h) (b : EN6 E6 f N C t h) : EQE E E6 := by
  have a0 := a.2 0 (by decide) (by decide)
  have a1 := a.2 1 (by decide) (by decide)
  exact ⟨⟨a.1.1.trans b.1.1.1.symm, a.1.2.trans b.1.1.2.symm⟩, ⟨a0.1.trans b.1.2.1.1.symm, a1.1.trans b.1.2.1.2.symm⟩, a0.2.trans b.1.2.2.1.symm, a1.2.trans b.1.2.2.2.symm⟩
theorem sd_eq {C R : jm} (h : RDw C R) (e : EQE C R) {f : Int} (f0 : 0 ≤ f) (f1 : f < 24) : sdF C (xe (C 15 0).toNat f) 18 = sd6 R f := by
  have w := h.2 f f0 f1
  obtain ⟨e1, e2, e3⟩ := e
  unfold sdF sd6
  by_cases u : R 627 f = 0
  · rw [if_pos (Or.inl (w.1.trans u)), if_pos (Or.inl u)]
  · have fl := w.2 u
    have a := fl.s0
    have b := fl.s1
    have h4 := fl.2.2.2.1
    rw [w.1, fl.1.1, fl.1.2.1, fl.1.2.2.2.2, a.1.1, a.1.2.1, b.1.1, b.1.2.1, e1.1, e1.2, e2.1, e2.2, e3.1, e3.2]
    (repeat' split) <;> omega
theorem fe_eq {C R : jm} (h : RDw C R) (e : EQE C R) : ∀ (n : Nat) (i : Int), 0 ≤ i → i + n ≤ 24 → feF C (C 15 0).toNat n i = fe6 R n i := by
  intro n
  induction n with
  | zero => intro i _ _; rfl
  | succ n ih =>
    intro i i0 i1
    unfold feF fe6
    rw [ih (i + 1) (by omega) (by omega), sd_eq h e i0 (by omega)]
theorem fr_eq {C R : jm} (h : RDw C R) : ∀ (n : Nat) (i : Int), 0 ≤ i → i + n ≤ 24 → frF C (C 15 0).toNat n i = fE6 R n i := by
  intro n
  induction n with
  | zero => intro i _ _; rfl
  | succ n ih =>
    intro i i0 i1
    unfold frF fE6
    rw [ih (i + 1) (by omega) (by omega), (h.2 i i0 (by omega)).1]
theorem RDw.ot {C H E R E6 : jm} (h : RDw C R) (f : FR W_c_Headers_readAll_x C H) (o : OT5 H E) (s : ∀ (b : Nat) (i : Int), 627 ≤ b → b ≤ 642 → E6 b i = R b i) : RDw E E6 ∧ E 15 0 = C 15 0 ∧ E 15 1 = C 15 1 := by
  have h1 := h.f f rfl
  have z0 : H 15 0 = C 15 0 := f.g (show kd 15 = 9 from rfl) rfl
  have z1 : H 15 1 = C 15 1 := f.g (show kd 15 = 9 from rfl) rfl
  have y0 : E 15 0 = H 15 0 := o.2 0 (by decide) (by decide) (by decide)
  have y1 : E 15 1 = H 15 1 := o.2 1 (by decide) (by decide) (by decide)
  exact ⟨(h1.e (fun b k b0 b1 => o.1 b k (by omega) (by omega) (by omega) (by omega)) y0 y1).r s, y0.trans z0, y1.trans z1⟩
theorem RDp.ot {C H E R S : jm} (h : RDp C R) (f : FR W_c_Headers_readAll_x C H) (o : OT5 H E) (s : ∀ (b : Nat) (i : Int), 600 ≤ b → b ≤ 601 → S b i = R b i) : RDp E S := fun p p0 p1 => by
  have a := xpk (g := p) ⟨p0, p1⟩
  have q := ((h.f f rfl).r s) p p0 p1
  refine ⟨?_, fun i i0 i1 => ?_⟩
  · rw [o.1 _ 1 (by omega) (by omega) (by omega) (by omega)]; exact q.1
  · rw [o.1 _ i (by omega) (by omega) (by omega) (by omega)]; exact q.2 i i0 i1
theorem FND.ot {T E : jm} {f : Int → Int} {N C F r : Int} (h : FND T E f N C F r) : OT5 T E := by
  rcases h with h | h
  · exact h.2.2
  · exact h.2.2.1
theorem FND.he {T E : jm} {f : Int → Int} {N C F r : Int} (h : FND T E f N C F r) (hi : F = 0 ↔ hX f N C = -1) : (r = 1 ↔ heG f N C) ∧ (r = 0 ↔ ¬ heG f N C) := by
  rcases h with h | h
  · rw [heG_i hi] at h
    exact ⟨⟨fun u => by omega, fun u => absurd u h.1⟩, ⟨fun _ => h.1, fun _ => h.2.1⟩⟩
  · rw [heG_i hi] at h
    exact ⟨⟨fun _ => h.1, fun _ => h.2.1⟩, ⟨fun u => by omega, fun u => absurd h.1 u⟩⟩
theorem FND.in1 {T E : jm} {f : Int → Int} {N C F : Int} (h : FND T E f N C F 1) : (E 15 3 = ntf f N C ∧ E 15 4 = inf f N C (ntf f N C)) ∧ ((qfF f N C (inf f N C (ntf f N C)) ∧ E 15 5 = 1 ∧ E2F E f N C (inf f N C (ntf f N C) + 1) (inf f N C (ntf f N C) + 2)) ∨ (¬ qfF f N C (inf f N C (ntf f N C)) ∧ E 15 5 = 0 ∧ E2F E f N C (ntf f N C) (inf f N C (ntf f N C)))) := by
  rcases h with h | h
  · exact absurd h.2.1 (by decide)
  · exact h.2.2.2
theorem HE.c0 {f : Int → Int} {N C : Int} (h : HE f N C) : 0 ≤ C := h.1.1
theorem fe6_r (M : jm) : ∀ (n : Nat) (i : Int), 0 ≤ i → fe6 M n i = -1 ∨ ((i ≤ fe6 M n i ∧ fe6 M n i < i + n) ∧ sd6 M (fe6 M n i) ≠ -1) := by
  intro n
  induction n with
  | zero => intro i _; exact Or.inl rfl
  | succ n ih =>
    intro i hi
    unfold fe6
    by_cases h : sd6 M i ≠ -1
    · rw [if_pos h]; exact Or.inr ⟨by omega, h⟩
    · rw [if_neg h]
      rcases ih (i + 1) (by omega) with q | q
      · exact Or.inl q
      · exact Or.inr ⟨by omega, q.2⟩
theorem sd6_r (M : jm) (f : Int) : sd6 M f = -1 ∨ ((M 627 f ≠ 0 ∧ M 629 f = M 598 60) ∧ (sd6 M f = 0 ∨ sd6 M f = 1)) := by
  unfold sd6
  (repeat' split) <;> omega
theorem op_turn {C D R S : jm} {r r2 : Int} (h : RDA C R) (hG : RG1 R) (hI : RI R) {x : Int} (f : FR W_c_PacketWall_turn_x C D) (p : ((x < 0 ∨ 23 < x ∨ C (xe 2 x) 1 = -1) ∧ r = -2 ∧ D = C) ∨ (((0 ≤ x ∧ x ≤ 23) ∧ C (xe 2 x) 1 ≠ -1) ∧ ∃ (C_ : Int) (H : jm), HE (rf R x) (C (xe 2 x) 1) C_ ∧ (H 3 4 = 0 ↔ hX (rf R x) (C (xe 2 x) 1) C_ = -1) ∧ FR W_c_Headers_readAll_x C H ∧ H 3 7 = ((xe 2 x : Nat) : Int) ∧ RWQ H D (rf R x) (C (xe 2 x) 1) C_ (H 3 4) (C 15 0).toNat (H 3 7) r)) (q : TU6 R S x r2) (hf : ∀ (a : Nat) (i : Int), a ≠ 598 → a ≠ 601 → a ≠ 603 → a ≠ 604 → a ≠ 605 → S a i = R a i) (hk : ∀ (i : Int), i ≠ 6 → i ≠ 10 → i ≠ 11 → i ≠ 12 → i ≠ 59 → i ≠ 60 → i ≠ 61 → i ≠ 62 → i ≠ 63 → i ≠ 64 → i ≠ 65 → i ≠ 66 → S 598 i = R 598 i) : RDA D S ∧ r = r2 := by
  have sw : ∀ (b : Nat) (i : Int), 627 ≤ b → b ≤ 642 → S b i = R b i := fun b i _ _ => hf b i (by omega) (by omega) (by omega) (by omega) (by omega)
  have s0 : ∀ i : Int, S 600 i = R 600 i := fun i => hf 600 i (by decide) (by decide) (by decide) (by decide) (by decide)
  have rest : RDw D S → RDp D S → r = r2 → RDA D S ∧ r = r2 := fun hw hp e => ⟨⟨((h.1.f f rfl).r (fun i => hf 599 i (by decide) (by decide) (by decide) (by decide) (by decide)) (hk 1 (by decide) (by decide) (by decide) (by decide) (by decide) (by decide) (by decide) (by decide) (by decide) (by decide) (by decide) (by decide))), hp, ((h.2.2.1.f f rfl).r (fun i _ _ => (hk i (by omega) (by omega) (by omega) (by omega) (by omega) (by omega) (by omega) (by omega) (by omega) (by omega) (by omega) (by omega)))), ((h.2.2.2.1.f f rfl).r (fun i => hf 622 i (by decide) (by decide) (by decide) (by decide) (by decide)) (hk 34 (by decide) (by decide) (by decide) (by decide) (by decide) (by decide) (by decide) (by decide) (by decide) (by decide) (by decide) (by decide))), ((h.2.2.2.2.1.f f rfl).r (fun a i _ _ => hf a i (by omega) (by omega) (by omega) (by omega) (by omega))), hw, ((h.2.2.2.2.2.2.f f rfl).r hG hI (fun a i _ _ => hf a i (by omega) (by omega) (by omega) (by omega) (by omega)))⟩, e⟩
  by_cases hx : 0 ≤ x ∧ x ≤ 23
  · have hN := (h.2.1 x (by omega) (by omega)).1
    rw [hN] at p
    rcases p with ⟨p0, p1, p2⟩ | ⟨p0, c1, H, p1, p2, p3, p4, p5⟩ <;> rcases q with ⟨q0, q1, q2⟩ | ⟨q0, c2, q1, q2⟩
    · rw [p2, q2]
      exact ⟨h, by omega⟩
    · exact absurd p0 (by omega)
    · exact absurd q0 (by omega)
    · have ec := HE.u p1 q1
      subst ec
      rcases p5 with ⟨a1, a2⟩ | ⟨E, a1, a2⟩
      · have ng := (a1.he p2).2.1 rfl
        rcases q2 with ⟨b0, b1, b2⟩ | ⟨b0, -⟩
        · exact rest (RDw.ot h.2.2.2.2.2.1 p3 a1.ot sw).1 (h.2.1.ot p3 a1.ot (fun b i b0 b1' => by rcases (show b = 600 ∨ b = 601 by omega) with rfl | rfl; (exact s0 i); (exact b2 i))) (by omega)
        · exact absurd b0 ng
      · have hg := (a1.he p2).1.1 rfl
        have ot := a1.ot
        have nn := a1.in1
        rcases q2 with ⟨b0, -⟩ | ⟨-, E6, b1, b2, b3⟩
        · exact absurd hg b0
        · have w6 := RDw.ot h.2.2.2.2.2.1 p3 ot b1.1
          have same : D = E → (∀ i : Int, S 601 i = R 601 i) → r = r2 → RDA D S ∧ r = r2 := fun e1 e2 e3 => rest (by rw [e1]; exact (RDw.ot h.2.2.2.2.2.1 p3 ot sw).1) (by rw [e1]; exact h.2.1.ot p3 ot (fun b i b0 b1' => by rcases (show b = 600 ∨ b = 601 by omega) with rfl | rfl; (exact s0 i); (exact e2 i))) e3
          have v0 : (E 15 0).toNat = (C 15 0).toNat := by rw [w6.2.1]
          rcases nn.2 with ⟨m0, m1, m2⟩ | ⟨m0, m1, m2⟩
          · -- the packet quotes another: no flow of its own ends is changed
            rcases a2 with ⟨a3, a4, a5⟩ | ⟨a3, -⟩ | ⟨a3, -⟩
            · rcases b3 with ⟨b4, b5, b6⟩ | ⟨b4, -⟩
              · exact same a5 b6 (by omega)
              · exfalso
                rcases fe6_r E6 24 0 (by decide) with u | u
                · exact b4.1 u
                · have s6 := (sd6_r E6 (fe6 E6 24 0)).resolve_left u.2
                  have fl := (w6.1.2 (fe6 E6 24 0) (by omega) (by omega)).2 s6.1.1
                  have k7 : E6 598 60 = 1 := by rw [b2.1.1.2, m0.1]; rfl
                  rcases fl.2.2.2.1 with z | z
                  · exact b4.2 z.1
                  · exact z.2.2.2.2 (by rw [s6.1.2, k7])
            · omega
            · omega
          · have eq := eqe m2 b2
            have fe := fe_eq w6.1 eq 24 0 (by decide) (by decide)
            rw [v0] at fe
            rw [fe] at a2
            rcases a2 with ⟨a3, -⟩ | ⟨a3, a4, a5, a6⟩ | ⟨a3, a4, a5, a6, a7⟩
            · omega
            · rcases b3 with ⟨b4, b5, b6⟩ | ⟨b4, -⟩
              · exact same a6 b6 (by omega)
              · exfalso
                rcases a4 with u | u
                · exact b4.1 u
                · have rr := (fe6_r E6 24 0 (by decide)).resolve_left b4.1
                  have s6 := (sd6_r E6 (fe6 E6 24 0)).resolve_left rr.2
                  have fl := (w6.1.2 (fe6 E6 24 0) (by omega) (by omega)).2 s6.1.1
                  rw [v0] at fl
                  exact b4.2 (fl.1.2.2.2.2.symm.trans u)
            · have rr := (fe6_r E6 24 0 (by decide)).resolve_left a4.1
              have s6 := (sd6_r E6 (fe6 E6 24 0)).resolve_left rr.2
              have fl := (w6.1.2 (fe6 E6 24 0) (by omega) (by omega)).2 s6.1.1
              have sd := sd_eq w6.1 eq (f := fe6 E6 24 0) (by omega) (by omega)
              rw [v0] at fl sd
              rw [sd] at a5
              rcases b3 with ⟨b4, -⟩ | ⟨b4, b5, b6, b7⟩
              · exfalso
                rcases b4 with u | u
                · exact a4.1 u
                · exact a4.2 (fl.1.2.2.2.2.trans u)
              · have er : r = r2 := a5.trans b5.symm
                have pp : R 600 x = R 600 x := rfl
                refine rest ?_ ?_ er
                · refine RDw.r (RDw.e w6.1 (fun b k b0 b1' => a7 b k ?_) (a7 15 0 ?_) (a7 15 1 ?_)) (fun b i u v => (sw b i u v).trans (b1.1 b i u v).symm)
                  · rw [p4]
                    have := xpk (g := x) (by omega)
                    omega
                  · rw [p4]
                    have := xpk (g := x) (by omega)
                    omega
                  · rw [p4]
                    have := xpk (g := x) (by omega)
                    omega
                · have hp := h.2.1.ot p3 ot (S := R) (fun _ _ _ _ => rfl)
                  have A0 : (if r = 0 then E (xe (C 15 0).toNat (fe6 E6 24 0)) 14 else E (xe (C 15 0).toNat (fe6 E6 24 0) + 1) 0) = (if r2 = 0 then E6 641 (fe6 E6 24 0) else E6 630 (2 * fe6 E6 24 0)) := by
                    rw [er, fl.s0.1.1]
                    rcases fl.2.2.2.1 with z | z
                    · exact absurd z.1 b4.2
                    · rw [z.2.1]
                  have P0 : (if r = 0 then E (xe (C 15 0).toNat (fe6 E6 24 0)) 15 else E (xe (C 15 0).toNat (fe6 E6 24 0) + 2) 0) = (if r2 = 0 then E6 642 (fe6 E6 24 0) else E6 631 (2 * fe6 E6 24 0)) := by
                    rw [er, fl.s0.1.2.1]
                    rcases fl.2.2.2.1 with z | z
                    · exact absurd z.1 b4.2
                    · rw [z.2.2.1]
                  rw [A0, P0, nn.1.1, nn.1.2, er, p4] at a6
                  have zx := xpk (g := x) (by omega)
                  have st : (((xe 2 x : Nat) : Int)).toNat = xe 2 x := Int.toNat_natCast _
                  rw [st] at a6
                  refine rdp_bytes hp (x := x) (by omega) (fun b b0 b1' => ?_) (fun i i0 i1 => (a6 i i0 i1).1) (fun i _ _ => congrFun b6 i) (fun _ _ _ => rfl) (fun b b0 b1' e i => ?_) b7
                  · have zb := xpk (g := b) ⟨b0, b1'⟩
                    rw [a7 _ 1 (by rw [p4, st]; omega), s0 b]
                    exact (hp b b0 b1').1
                  · have n := xpk_ne (p := b) (x := x) ⟨b0, b1'⟩ (by omega) e
                    exact a7 _ i (by rw [p4, st]; exact n.2.2.2)
  · rcases p with ⟨p0, p1, p2⟩ | ⟨p0, -⟩
    · rcases q with ⟨q0, q1, q2⟩ | ⟨q0, -⟩
      · rw [p2, q2]
        exact ⟨h, by omega⟩
      · exact absurd q0.1 hx
    · exact absurd p0.1 hx
