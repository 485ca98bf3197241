section
theorem op_restore {C D R S : jm} {r r2 : Int} (h : RDA C R) (hG : RG1 R) (hI : RI R) (hT : C 0 8 = R 598 2) (f : FR W_c_PacketWall_restore_x C D) (hl : D 0 1 = 0) (p : RTQ (ju C 0 1 0) D (C 15 0) (C 15 1) (C 0 1) (C 0 8) r) (q : RS6 R S r2) (hf : ∀ (a : Nat) (i : Int), a ≠ 598 → a ≠ 627 → a ≠ 628 → a ≠ 629 → a ≠ 630 → a ≠ 631 → a ≠ 632 → a ≠ 633 → a ≠ 634 → a ≠ 635 → a ≠ 636 → a ≠ 637 → a ≠ 638 → a ≠ 639 → a ≠ 640 → S a i = R a i) (hk : ∀ (i : Int), i ≠ 1 → S 598 i = R 598 i) : RDA D S ∧ r = r2 := by
  have j1 : ju C 0 1 0 1 = R 599 := (funext (fun i => ju_c _ _ (by decide))).trans h.1.1
  obtain ⟨p1, p2⟩ := p
  obtain ⟨q1, q2, q3⟩ := q
  unfold RTQ at *
  rw [j1, h.1.2] at p1
  have e := RTR.u p1 q1
  have e1 : D 1 = C 1 := funext (fun i => f.g (show kd 1 = 43 from rfl) rfl)
  have e2 : S 599 = R 599 := funext (fun i => hf 599 i (by decide) (by decide) (by decide) (by decide) (by decide) (by decide) (by decide) (by decide) (by decide) (by decide) (by decide) (by decide) (by decide) (by decide) (by decide))
  have hV := h.2.2.2.2.2.1.1
  refine ⟨⟨?_, ((h.2.1.f f rfl).r (fun a i _ _ => hf a i (by omega) (by omega) (by omega) (by omega) (by omega) (by omega) (by omega) (by omega) (by omega) (by omega) (by omega) (by omega) (by omega) (by omega) (by omega))), ((h.2.2.1.f f rfl).r (fun i _ _ => (hk i (by omega)))), ((h.2.2.2.1.f f rfl).r (fun i => hf 622 i (by decide) (by decide) (by decide) (by decide) (by decide) (by decide) (by decide) (by decide) (by decide) (by decide) (by decide) (by decide) (by decide) (by decide) (by decide)) (hk 34 (by decide))), ((h.2.2.2.2.1.f f rfl).r (fun a i _ _ => hf a i (by omega) (by omega) (by omega) (by omega) (by omega) (by omega) (by omega) (by omega) (by omega) (by omega) (by omega) (by omega) (by omega) (by omega) (by omega))), ?_, ((h.2.2.2.2.2.2.f f rfl).r hG hI (fun a i _ _ => hf a i (by omega) (by omega) (by omega) (by omega) (by omega) (by omega) (by omega) (by omega) (by omega) (by omega) (by omega) (by omega) (by omega) (by omega) (by omega)))⟩, e⟩
  · exact ⟨by rw [e1, e2]; exact h.1.1, by rw [hl, q2]⟩
  · rcases p2 with ⟨a0, a1⟩ | ⟨a0, a1, a2, a3⟩ <;> rcases q3 with ⟨b0, b1⟩ | ⟨b0, b1, b2⟩
    · have d : ∀ (b : Nat) (k : Int), ¬ inF (C 15 1) b → (b ≠ 0 ∨ k ≠ 1) → D b k = C b k := fun b k hb h01 => by
        rw [a1 b k hb]
        exact ju_ne _ _ (by omega)
      have n : ∀ i : Int, 0 ≤ i → i < 24 → ∀ b : Nat, xe (C 15 0).toNat i ≤ b → b ≤ xe (C 15 0).toNat i + 7 → ¬ inF (C 15 1) b := fun i i0 i1 b b0 b1 => by
        rintro ⟨j, j0, j1, j2⟩
        have x1 := xfl (V := C 15 0) hV.1 ⟨i0, i1⟩
        have x2 := xfl (V := C 15 1) (by omega) j0
        omega
      have dz0 : D 15 0 = C 15 0 := d 15 0 (inF_n (by omega) (by decide)) (Or.inl (by decide))
      have dz1 : D 15 1 = C 15 1 := d 15 1 (inF_n (by omega) (by decide)) (Or.inl (by decide))
      refine ⟨by rw [dz0, dz1]; exact hV, fun i i0 i1 => ?_⟩
      rw [dz0]
      have w := h.2.2.2.2.2.1.2 i i0 i1
      have x1 := xfl (V := C 15 0) hV.1 ⟨i0, i1⟩
      refine ⟨?_, fun u => ?_⟩
      · rw [d _ 0 (n i i0 i1 _ (by omega) (by omega)) (Or.inl (by omega)), b1 627 i (by decide) (by decide)]
        exact w.1
      · rw [b1 627 i (by decide) (by decide)] at u
        exact ((w.2 u).e (fun j _ => d _ j (n i i0 i1 _ (by omega) (by omega)) (Or.inl (by omega))) (fun d' j d0 d1 => d _ j (n i i0 i1 _ (by omega) (by omega)) (Or.inl (by omega)))).r (fun b hb => b1 b i (by omega) (by omega)) (fun b s b0 b1' _ _ => b1 b _ (by omega) (by omega))
    · omega
    · omega
    · refine ⟨by rw [a1.1, a1.2]; omega, fun i i0 i1 => ?_⟩
      rw [a1.1]
      have t := b2 i i0 i1
      by_cases z : i < r
      · have ok := (a2 i i0 z).1.2
        have rd := (a2 i i0 z).2
        rw [j1, h.1.2] at ok
        rw [j1, hT] at rd
        have r6 := t.1 (by omega)
        refine ⟨by rw [rd.1.1, r6.1], fun _ => rr_fl rd r6.2 ok⟩
      · have l := t.2 (by omega)
        refine ⟨by rw [a3 i (by omega) i1, l], fun u => absurd l u⟩
end
section
/-! ===== both sides answer alike: ends, turn, track ===== -/
theorem HT.y {M : jm} {f : Int → Int} {N C x : Int} (h : HT M f N C) (hx : 0 ≤ x ∧ x < C) : 0 ≤ hY f N x := by
  have q := hst_y h.2.2.2 h.2.2.1.2 x.toNat (fun i i0 i1 => (h.2.1 i i0 (by omega)).1)
  rw [Int.toNat_of_nonneg hx.1] at q
  exact q
/-- the ends that both sides hold -/
noncomputable def EQE (E E6 : jm) : Prop := (E 18 1 = E6 598 59 ∧ E 18 2 = E6 598 60) ∧ (E (18 + 1) 0 = E6 598 61 ∧ E (18 + 1) 1 = E6 598 62) ∧ E (18 + 2) 0 = E6 598 63 ∧ E (18 + 2) 1 = E6 598 64
theorem eqe {E E6 : jm} {f : Int → Int} {N C t h : Int} (a : E2F E f N C t h) (b : EN6 E6 f N C t h) : EQE E E6 := by
  have a0 := a.2 0 (by decide) (by decide)
  have a1 := a.2 1 (by decide) (by decide)
  exact ⟨⟨a.1.1.trans b.1.1.1.symm, a.1.2.trans b.1.1.2.symm⟩, ⟨a0.1.trans b.1.2.1.1.symm, a1.1.trans b.1.2.1.2.symm⟩, a0.2.trans b.1.2.2.1.symm, a1.2.trans b.1.2.2.2.symm⟩
theorem sd_eq {C R : jm} (h : RDw C R) (e : EQE C R) {f : Int} (f0 : 0 ≤ f) (f1 : f < 24) : sdF C (xe (C 15 0).toNat f) 18 = sd6 R f := by
  have w := h.2 f f0 f1
  obtain ⟨e1, e2, e3⟩ := e
  unfold sdF sd6
  by_cases u : R 627 f = 0
  · rw [if_pos (Or.inl (w.1.trans u)), if_pos (Or.inl u)]
  · have fl := w.2 u
    have a := fl.s0
    have b := fl.s1
    have h4 := fl.2.2.2.1
    rw [w.1, fl.1.1, fl.1.2.1, fl.1.2.2.2.2, a.1.1, a.1.2.1, b.1.1, b.1.2.1, e1.1, e1.2, e2.1, e2.2, e3.1, e3.2]
    (repeat' split) <;> omega
theorem fe_eq {C R : jm} (h : RDw C R) (e : EQE C R) : ∀ (n : Nat) (i : Int), 0 ≤ i → i + n ≤ 24 → feF C (C 15 0).toNat n i = fe6 R n i := by
  intro n
  induction n with
  | zero => intro i _ _; rfl
  | succ n ih =>
    intro i i0 i1
    unfold feF fe6
    rw [ih (i + 1) (by omega) (by omega), sd_eq h e i0 (by omega)]
theorem fr_eq {C R : jm} (h : RDw C R) : ∀ (n : Nat) (i : Int), 0 ≤ i → i + n ≤ 24 → frF C (C 15 0).toNat n i = fE6 R n i := by
  intro n
  induction n with
  | zero => intro i _ _; rfl
  | succ n ih =>
    intro i i0 i1
    unfold frF fE6
    rw [ih (i + 1) (by omega) (by omega), (h.2 i i0 (by omega)).1]
theorem RDw.ot {C H E R E6 : jm} (h : RDw C R) (f : FR W_c_Headers_readAll_x C H) (o : OT5 H E) (s : ∀ (b : Nat) (i : Int), 627 ≤ b → b ≤ 642 → E6 b i = R b i) : RDw E E6 ∧ E 15 0 = C 15 0 ∧ E 15 1 = C 15 1 := by
  have h1 := h.f f rfl
  have z0 : H 15 0 = C 15 0 := f.g (show kd 15 = 9 from rfl) rfl
  have z1 : H 15 1 = C 15 1 := f.g (show kd 15 = 9 from rfl) rfl
  have y0 : E 15 0 = H 15 0 := o.2 0 (by decide) (by decide) (by decide)
  have y1 : E 15 1 = H 15 1 := o.2 1 (by decide) (by decide) (by decide)
  exact ⟨(h1.e (fun b k b0 b1 => o.1 b k (by omega) (by omega) (by omega) (by omega)) y0 y1).r s, y0.trans z0, y1.trans z1⟩
theorem RDp.ot {C H E R S : jm} (h : RDp C R) (f : FR W_c_Headers_readAll_x C H) (o : OT5 H E) (s : ∀ (b : Nat) (i : Int), 600 ≤ b → b ≤ 601 → S b i = R b i) : RDp E S := fun p p0 p1 => by
  have a := xpk (g := p) ⟨p0, p1⟩
  have q := ((h.f f rfl).r s) p p0 p1
  refine ⟨?_, fun i i0 i1 => ?_⟩
  · rw [o.1 _ 1 (by omega) (by omega) (by omega) (by omega)]; exact q.1
  · rw [o.1 _ i (by omega) (by omega) (by omega) (by omega)]; exact q.2 i i0 i1
theorem FND.ot {T E : jm} {f : Int → Int} {N C F r : Int} (h : FND T E f N C F r) : OT5 T E := by
  rcases h with h | h
  · exact h.2.2
  · exact h.2.2.1
theorem FND.he {T E : jm} {f : Int → Int} {N C F r : Int} (h : FND T E f N C F r) (hi : F = 0 ↔ hX f N C = -1) : (r = 1 ↔ heG f N C) ∧ (r = 0 ↔ ¬ heG f N C) := by
  rcases h with h | h
  · rw [heG_i hi] at h
    exact ⟨⟨fun u => by omega, fun u => absurd u h.1⟩, ⟨fun _ => h.1, fun _ => h.2.1⟩⟩
  · rw [heG_i hi] at h
    exact ⟨⟨fun _ => h.1, fun _ => h.2.1⟩, ⟨fun u => by omega, fun u => absurd h.1 u⟩⟩
theorem FND.in1 {T E : jm} {f : Int → Int} {N C F : Int} (h : FND T E f N C F 1) : (E 15 3 = ntf f N C ∧ E 15 4 = inf f N C (ntf f N C)) ∧ ((qfF f N C (inf f N C (ntf f N C)) ∧ E 15 5 = 1 ∧ E2F E f N C (inf f N C (ntf f N C) + 1) (inf f N C (ntf f N C) + 2)) ∨ (¬ qfF f N C (inf f N C (ntf f N C)) ∧ E 15 5 = 0 ∧ E2F E f N C (ntf f N C) (inf f N C (ntf f N C)))) := by
  rcases h with h | h
  · exact absurd h.2.1 (by decide)
  · exact h.2.2.2
theorem HE.c0 {f : Int → Int} {N C : Int} (h : HE f N C) : 0 ≤ C := h.1.1
theorem fe6_r (M : jm) : ∀ (n : Nat) (i : Int), 0 ≤ i → fe6 M n i = -1 ∨ ((i ≤ fe6 M n i ∧ fe6 M n i < i + n) ∧ sd6 M (fe6 M n i) ≠ -1) := by
  intro n
  induction n with
  | zero => intro i _; exact Or.inl rfl
  | succ n ih =>
    intro i hi
    unfold fe6
    by_cases h : sd6 M i ≠ -1
    · rw [if_pos h]; exact Or.inr ⟨by omega, h⟩
    · rw [if_neg h]
      rcases ih (i + 1) (by omega) with q | q
      · exact Or.inl q
      · exact Or.inr ⟨by omega, q.2⟩
theorem sd6_r (M : jm) (f : Int) : sd6 M f = -1 ∨ ((M 627 f ≠ 0 ∧ M 629 f = M 598 60) ∧ (sd6 M f = 0 ∨ sd6 M f = 1)) := by
  unfold sd6
  (repeat' split) <;> omega
theorem op_turn {C D R S : jm} {r r2 : Int} (h : RDA C R) (hG : RG1 R) (hI : RI R) {x : Int} (f : FR W_c_PacketWall_turn_x C D) (p : ((x < 0 ∨ 23 < x ∨ C (xe 2 x) 1 = -1) ∧ r = -2 ∧ D = C) ∨ (((0 ≤ x ∧ x ≤ 23) ∧ C (xe 2 x) 1 ≠ -1) ∧ ∃ (C_ : Int) (H : jm), HE (rf R x) (C (xe 2 x) 1) C_ ∧ (H 3 4 = 0 ↔ hX (rf R x) (C (xe 2 x) 1) C_ = -1) ∧ FR W_c_Headers_readAll_x C H ∧ H 3 7 = ((xe 2 x : Nat) : Int) ∧ RWQ H D (rf R x) (C (xe 2 x) 1) C_ (H 3 4) (C 15 0).toNat (H 3 7) r)) (q : TU6 R S x r2) (hf : ∀ (a : Nat) (i : Int), a ≠ 598 → a ≠ 601 → a ≠ 603 → a ≠ 604 → a ≠ 605 → S a i = R a i) (hk : ∀ (i : Int), i ≠ 6 → i ≠ 10 → i ≠ 11 → i ≠ 12 → i ≠ 59 → i ≠ 60 → i ≠ 61 → i ≠ 62 → i ≠ 63 → i ≠ 64 → i ≠ 65 → i ≠ 66 → S 598 i = R 598 i) : RDA D S ∧ r = r2 := by
  have sw : ∀ (b : Nat) (i : Int), 627 ≤ b → b ≤ 642 → S b i = R b i := fun b i _ _ => hf b i (by omega) (by omega) (by omega) (by omega) (by omega)
  have s0 : ∀ i : Int, S 600 i = R 600 i := fun i => hf 600 i (by decide) (by decide) (by decide) (by decide) (by decide)
  have rest : RDw D S → RDp D S → r = r2 → RDA D S ∧ r = r2 := fun hw hp e => ⟨⟨((h.1.f f rfl).r (fun i => hf 599 i (by decide) (by decide) (by decide) (by decide) (by decide)) (hk 1 (by decide) (by decide) (by decide) (by decide) (by decide) (by decide) (by decide) (by decide) (by decide) (by decide) (by decide) (by decide))), hp, ((h.2.2.1.f f rfl).r (fun i _ _ => (hk i (by omega) (by omega) (by omega) (by omega) (by omega) (by omega) (by omega) (by omega) (by omega) (by omega) (by omega) (by omega)))), ((h.2.2.2.1.f f rfl).r (fun i => hf 622 i (by decide) (by decide) (by decide) (by decide) (by decide)) (hk 34 (by decide) (by decide) (by decide) (by decide) (by decide) (by decide) (by decide) (by decide) (by decide) (by decide) (by decide) (by decide))), ((h.2.2.2.2.1.f f rfl).r (fun a i _ _ => hf a i (by omega) (by omega) (by omega) (by omega) (by omega))), hw, ((h.2.2.2.2.2.2.f f rfl).r hG hI (fun a i _ _ => hf a i (by omega) (by omega) (by omega) (by omega) (by omega)))⟩, e⟩
  by_cases hx : 0 ≤ x ∧ x ≤ 23
  · have hN := (h.2.1 x (by omega) (by omega)).1
    rw [hN] at p
    rcases p with ⟨p0, p1, p2⟩ | ⟨p0, c1, H, p1, p2, p3, p4, p5⟩ <;> rcases q with ⟨q0, q1, q2⟩ | ⟨q0, c2, q1, q2⟩
    · rw [p2, q2]
      exact ⟨h, by omega⟩
    · exact absurd p0 (by omega)
    · exact absurd q0 (by omega)
    · have ec := HE.u p1 q1
      subst ec
      rcases p5 with ⟨a1, a2⟩ | ⟨E, a1, a2⟩
      · have ng := (a1.he p2).2.1 rfl
        rcases q2 with ⟨b0, b1, b2⟩ | ⟨b0, -⟩
        · exact rest (RDw.ot h.2.2.2.2.2.1 p3 a1.ot sw).1 (h.2.1.ot p3 a1.ot (fun b i b0 b1' => by rcases (show b = 600 ∨ b = 601 by omega) with rfl | rfl; (exact s0 i); (exact b2 i))) (by omega)
        · exact absurd b0 ng
      · have hg := (a1.he p2).1.1 rfl
        have ot := a1.ot
        have nn := a1.in1
        rcases q2 with ⟨b0, -⟩ | ⟨-, E6, b1, b2, b3⟩
        · exact absurd hg b0
        · have w6 := RDw.ot h.2.2.2.2.2.1 p3 ot b1.1
          have same : D = E → (∀ i : Int, S 601 i = R 601 i) → r = r2 → RDA D S ∧ r = r2 := fun e1 e2 e3 => rest (by rw [e1]; exact (RDw.ot h.2.2.2.2.2.1 p3 ot sw).1) (by rw [e1]; exact h.2.1.ot p3 ot (fun b i b0 b1' => by rcases (show b = 600 ∨ b = 601 by omega) with rfl | rfl; (exact s0 i); (exact e2 i))) e3
          have v0 : (E 15 0).toNat = (C 15 0).toNat := by rw [w6.2.1]
          rcases nn.2 with ⟨m0, m1, m2⟩ | ⟨m0, m1, m2⟩
          · -- the packet quotes another: no flow of its own ends is changed
            rcases a2 with ⟨a3, a4, a5⟩ | ⟨a3, -⟩ | ⟨a3, -⟩
            · rcases b3 with ⟨b4, b5, b6⟩ | ⟨b4, -⟩
              · exact same a5 b6 (by omega)
              · exfalso
                rcases fe6_r E6 24 0 (by decide) with u | u
                · exact b4.1 u
                · have s6 := (sd6_r E6 (fe6 E6 24 0)).resolve_left u.2
                  have fl := (w6.1.2 (fe6 E6 24 0) (by omega) (by omega)).2 s6.1.1
                  have k7 : E6 598 60 = 1 := by rw [b2.1.1.2, m0.1]; rfl
                  rcases fl.2.2.2.1 with z | z
                  · exact b4.2 z.1
                  · exact z.2.2.2.2 (by rw [s6.1.2, k7])
            · omega
            · omega
          · have eq := eqe m2 b2
            have fe := fe_eq w6.1 eq 24 0 (by decide) (by decide)
            rw [v0] at fe
            rw [fe] at a2
            rcases a2 with ⟨a3, -⟩ | ⟨a3, a4, a5, a6⟩ | ⟨a3, a4, a5, a6, a7⟩
            · omega
            · rcases b3 with ⟨b4, b5, b6⟩ | ⟨b4, -⟩
              · exact same a6 b6 (by omega)
              · exfalso
                rcases a4 with u | u
                · exact b4.1 u
                · have rr := (fe6_r E6 24 0 (by decide)).resolve_left b4.1
                  have s6 := (sd6_r E6 (fe6 E6 24 0)).resolve_left rr.2
                  have fl := (w6.1.2 (fe6 E6 24 0) (by omega) (by omega)).2 s6.1.1
                  rw [v0] at fl
                  exact b4.2 (fl.1.2.2.2.2.symm.trans u)
            · have rr := (fe6_r E6 24 0 (by decide)).resolve_left a4.1
              have s6 := (sd6_r E6 (fe6 E6 24 0)).resolve_left rr.2
              have fl := (w6.1.2 (fe6 E6 24 0) (by omega) (by omega)).2 s6.1.1
              have sd := sd_eq w6.1 eq (f := fe6 E6 24 0) (by omega) (by omega)
              rw [v0] at fl sd
              rw [sd] at a5
              rcases b3 with ⟨b4, -⟩ | ⟨b4, b5, b6, b7⟩
              · exfalso
                rcases b4 with u | u
                · exact a4.1 u
                · exact a4.2 (fl.1.2.2.2.2.trans u)
              · have er : r = r2 := a5.trans b5.symm
                have pp : R 600 x = R 600 x := rfl
                refine rest ?_ ?_ er
                · refine RDw.r (RDw.e w6.1 (fun b k b0 b1' => a7 b k ?_) (a7 15 0 ?_) (a7 15 1 ?_)) (fun b i u v => (sw b i u v).trans (b1.1 b i u v).symm)
                  · rw [p4]
                    have := xpk (g := x) (by omega)
                    omega
                  · rw [p4]
                    have := xpk (g := x) (by omega)
                    omega
                  · rw [p4]
                    have := xpk (g := x) (by omega)
                    omega
                · have hp := h.2.1.ot p3 ot (S := R) (fun _ _ _ _ => rfl)
                  have A0 : (if r = 0 then E (xe (C 15 0).toNat (fe6 E6 24 0)) 14 else E (xe (C 15 0).toNat (fe6 E6 24 0) + 1) 0) = (if r2 = 0 then E6 641 (fe6 E6 24 0) else E6 630 (2 * fe6 E6 24 0)) := by
                    rw [er, fl.s0.1.1]
                    rcases fl.2.2.2.1 with z | z
                    · exact absurd z.1 b4.2
                    · rw [z.2.1]
                  have P0 : (if r = 0 then E (xe (C 15 0).toNat (fe6 E6 24 0)) 15 else E (xe (C 15 0).toNat (fe6 E6 24 0) + 2) 0) = (if r2 = 0 then E6 642 (fe6 E6 24 0) else E6 631 (2 * fe6 E6 24 0)) := by
                    rw [er, fl.s0.1.2.1]
                    rcases fl.2.2.2.1 with z | z
                    · exact absurd z.1 b4.2
                    · rw [z.2.2.1]
                  rw [A0, P0, nn.1.1, nn.1.2, er, p4] at a6
                  have zx := xpk (g := x) (by omega)
                  have st : (((xe 2 x : Nat) : Int)).toNat = xe 2 x := Int.toNat_natCast _
                  rw [st] at a6
                  refine rdp_bytes hp (x := x) (by omega) (fun b b0 b1' => ?_) (fun i i0 i1 => (a6 i i0 i1).1) (fun i _ _ => congrFun b6 i) (fun _ _ _ => rfl) (fun b b0 b1' e i => ?_) b7
                  · have zb := xpk (g := b) ⟨b0, b1'⟩
                    rw [a7 _ 1 (by rw [p4, st]; omega), s0 b]
                    exact (hp b b0 b1').1
                  · have n := xpk_ne (p := b) (x := x) ⟨b0, b1'⟩ (by omega) e
                    exact a7 _ i (by rw [p4, st]; exact n.2.2.2)
  · rcases p with ⟨p0, p1, p2⟩ | ⟨p0, -⟩
    · rcases q with ⟨q0, q1, q2⟩ | ⟨q0, -⟩
      · rw [p2, q2]
        exact ⟨h, by omega⟩
      · exact absurd q0.1 hx
    · exact absurd p0.1 hx
end
section
/-! ===== both sides answer alike: track ===== -/
/-- the reference holds the headers of f; the packet's own header is I -/
noncomputable def TKC (M : jm) (f : Int → Int) (N C x I : Int) : Prop := HT M f N C ∧ (0 ≤ I ∧ I < C) ∧ M 598 65 = I ∧ rf M x = f ∧ M 600 x = N
theorem TKC.e {E M : jm} {f : Int → Int} {N C x I : Int} (h : TKC E f N C x I) (e : ∀ (b : Nat) (i : Int), 600 ≤ b → b ≤ 605 → M b i = E b i) (e6 : M 598 6 = E 598 6) (e5 : M 598 65 = E 598 65) : TKC M f N C x I := by
  obtain ⟨h1, h2, h3, h4, h5⟩ := h
  refine ⟨⟨by rw [e6]; exact h1.1, fun i i0 i1 => ?_, h1.2.2⟩, h2, by rw [e5]; exact h3, ?_, by rw [e 600 x (by decide) (by decide)]; exact h5⟩
  · rw [e (602 + 1) i (by decide) (by decide), e (602 + 2) i (by decide) (by decide), e (602 + 3) i (by decide) (by decide)]
    exact h1.2.1 i i0 i1
  · rw [← h4]
    exact rf_e (fun i => e 601 i (by decide) (by decide))
theorem tk_v8 {M : jm} {f : Int → Int} {N C I : Int} (ht : HT M f N C) (hi : 0 ≤ I ∧ I < C) (k8 : kA f N C I = 8) : vA f N C I 5 = f (hY f N I + 13) ∧ vA f N C I 2 = nbs f (hY f N I + 4) 4 ∧ vA f N C I 6 = tw f (hY f N I + 14) ∧ hX f N I = 8 := by
  have k := k8
  rw [kA_i hi] at k
  have y0 := ht.y hi
  have b := HT.f ht hi
  rw [k] at b
  have l20 : lst 8 = 20 := rfl
  have hN := ht.2.2.1
  have b13 := ht.2.2.2 (hY f N I + 13) (by omega) (by omega)
  have b14 := ht.2.2.2 (hY f N I + 14) (by omega) (by omega)
  have b15 := ht.2.2.2 (hY f N I + 14 + 1) (by omega) (by omega)
  have r4 := nbs_r4 (f := f) (y := hY f N I + 4) (n := 4) (by decide) (fun i i0 i1 => ht.2.2.2 i (by omega) (by omega))
  rw [vA_k (j := 5) hi k (by decide +kernel), vof_8_5, vA_k (j := 2) hi k (by decide +kernel), vof_8_2, vA_k (j := 6) hi k (by decide +kernel), vof_8_6, nbs_1, nbs_2]
  unfold tw
  omega
theorem tk_v7 {M : jm} {f : Int → Int} {N C I : Int} (ht : HT M f N C) (hi : 0 ≤ I ∧ I < C) (k7 : kA f N C I = 7) : vA f N C I 0 = f (hY f N I) := by
  have k := k7
  rw [kA_i hi] at k
  have y0 := ht.y hi
  have b := HT.f ht hi
  rw [k] at b
  have l8 : lst 7 = 8 := rfl
  have hN := ht.2.2.1
  have b0 := ht.2.2.2 (hY f N I) (by omega) (by omega)
  rw [vA_k (j := 0) hi k (by decide +kernel), vof_7_0, nbs_1, Int.add_zero]
  omega
theorem TKC.v {M : jm} {f : Int → Int} {N C x I : Int} (h : TKC M f N C x I) (k8 : kA f N C I = 8) : clE M x = tsS f N C I ∧ lg6 M x = tsN f N C I ∧ sq6 M x = tsQ f N C I ∧ tw (rf M x) (M 604 (M 598 65) + 14) = vA f N C I 6 := by
  obtain ⟨h1, h2, h3, h4, h5⟩ := h
  have v := tk_v8 h1 h2 k8
  have b := HT.f h1 h2
  have e13 : M 601 (400 * x + (hY f N I + 13)) = f (hY f N I + 13) := congrFun h4 (hY f N I + 13)
  have en : enf f N C I = hY f N I + hZ f N I := by
    unfold enf
    rw [if_pos h2]
  refine ⟨?_, ?_, ?_, ?_⟩
  · unfold clE tsS
    rw [h3, b.2.1, e13, v.1]
  · unfold lg6 tsN
    rw [h3, b.2.1, b.2.2.1, e13, v.1, h5, en]
    omega
  · unfold sq6 tsQ
    rw [h3, b.2.1, h4, v.2.1]
  · rw [h3, b.2.1, h4, v.2.2.1]
/-- a flow before it takes a packet in: all but its state, its end and who has sent -/
noncomputable def FP (C R : jm) (t : Nat) (f : Int) : Prop := (C t 1 = R 628 f ∧ C t 2 = R 629 f ∧ C t 13 = R 640 f) ∧ (∀ s : Int, 0 ≤ s → s < 2 → (C (t + 1) s = R 630 (2 * f + s) ∧ C (t + 2) s = R 631 (2 * f + s) ∧ C (t + 5) s = R 635 (2 * f + s)) ∧ (C (t + 6) s = R 636 (2 * f + s) ∧ C (t + 7) s = R 637 (2 * f + s)) ∧ C (t + 4) s = R 632 (2 * f + s) ∧ C (t + 3) s = l6x R (2 * f + s)) ∧ C t 12 = R 634 (2 * f + 1) ∧ ((R 640 f = -1 ∧ C t 15 = -1) ∨ (R 640 f ≠ -1 ∧ C t 14 = R 641 f ∧ C t 15 = R 642 f ∧ R 628 f = 0 ∧ R 629 f ≠ 1))
theorem FL.p {C R : jm} {t : Nat} {f : Int} (h : FL C R t f) : FP C R t f := ⟨⟨h.1.1, h.1.2.1, h.1.2.2.2.2⟩, h.2.1, h.2.2.1.1, h.2.2.2.1⟩
theorem tsM_f {M : jm} {t : Nat} {z b e w : Int} : (∀ k : Int, k ≠ 5 → tsM M t z b e w t k = M t k) ∧ tsM M t z b e w t 5 = b ∧ (∀ k : Int, tsM M t z b e w (t + 1) k = M (t + 1) k ∧ tsM M t z b e w (t + 2) k = M (t + 2) k ∧ tsM M t z b e w (t + 6) k = M (t + 6) k ∧ tsM M t z b e w (t + 7) k = M (t + 7) k) ∧ (∀ k : Int, tsM M t z b e w (t + 5) k = if k = z then w else M (t + 5) k) ∧ (∀ k : Int, tsM M t z b e w (t + 4) k = if k = z ∧ (M (t + 4) z = 0 ∨ 0 < j_w (e - M (t + 3) z)) then 1 else M (t + 4) k) ∧ (∀ k : Int, tsM M t z b e w (t + 3) k = if k = z ∧ (M (t + 4) z = 0 ∨ 0 < j_w (e - M (t + 3) z)) then e else M (t + 3) k) ∧ fr7 M (tsM M t z b e w) t := by
  by_cases c : M (t + 4) z = 0 ∨ 0 < j_w (e - M (t + 3) z)
  · rw [tsM_p c]
    refine ⟨fun k hk => ?_, ?_, fun k => ?_, fun k => ?_, fun k => ?_, fun k => ?_, ?_⟩
    · simp [ju, hk]
    · simp [ju]
    · simp [ju]
    · simp [ju]
    · simp [ju, c]
    · simp [ju, c]
    · exact fr7.u (fr7.u (fr7.u (fr7.u (fun _ _ _ => rfl) (by omega)) (by omega)) (by omega)) (by omega)
  · rw [tsM_n c]
    refine ⟨fun k hk => ?_, ?_, fun k => ?_, fun k => ?_, fun k => ?_, fun k => ?_, ?_⟩
    · simp [ju, hk]
    · simp [ju]
    · simp [ju]
    · simp [ju]
    · simp [ju, c]
    · simp [ju, c]
    · exact fr7.u (fr7.u (fun _ _ _ => rfl) (by omega)) (by omega)
theorem tiM_f {M : jm} {t : Nat} {z u N : Int} : (∀ k : Int, k ≠ 6 → k ≠ 12 → tiM M t z u N t k = M t k) ∧ tiM M t z u N t 6 = u + lvf (M t 2) (M t 5) ∧ tiM M t z u N t 12 = (if M t 12 ≠ 0 ∨ z = 1 then 1 else 0) ∧ (∀ k : Int, tiM M t z u N (t + 1) k = M (t + 1) k ∧ tiM M t z u N (t + 2) k = M (t + 2) k ∧ tiM M t z u N (t + 3) k = M (t + 3) k ∧ tiM M t z u N (t + 4) k = M (t + 4) k ∧ tiM M t z u N (t + 5) k = M (t + 5) k) ∧ (∀ k : Int, tiM M t z u N (t + 6) k = if k = z then jl_w (M (t + 6) z + 1) else M (t + 6) k) ∧ (∀ k : Int, tiM M t z u N (t + 7) k = if k = z then jl_w (M (t + 7) z + N) else M (t + 7) k) ∧ fr7 M (tiM M t z u N) t := by
  refine ⟨fun k h6 h12 => ?_, ?_, ?_, fun k => ?_, fun k => ?_, fun k => ?_, ?_⟩
  · simp [tiM, ju, h6, h12]
  · simp [tiM, ju]
  · simp [tiM, ju]
  · simp [tiM, ju]
  · simp [tiM, ju]
  · simp [tiM, ju]
  · exact fr7.u (fr7.u (fr7.u (fr7.u (fun _ _ _ => rfl) (by omega)) (by omega)) (by omega)) (by omega)
theorem ct6_f {K S : jm} {x g s : Int} (h : CT6 K S x g s) (n6 : K 629 g = 6) : (∀ j : Int, S 636 j = if j = s then jl_w (K 636 s + 1) else K 636 j) ∧ (∀ j : Int, S 637 j = if j = s then jl_w (K 637 s + K 600 x) else K 637 j) ∧ (∀ j : Int, S 634 j = if j = s then 1 else K 634 j) ∧ (∀ j : Int, S 632 j = if j = s then 1 else K 632 j) ∧ (∀ j : Int, S 635 j = if j = s then tw (rf K x) (K 604 (K 598 65) + 14) else K 635 j) ∧ (∀ j : Int, S 633 j = if j = s ∧ ¬ (K 632 s ≠ 0 ∧ j_w (ctE K x - K 633 s) ≤ 0) then ctE K x else K 633 j) ∧ ∀ (a : Nat) (j : Int), (a < 632 ∨ 637 < a) → S a j = K a j := by
  rcases h with h | ⟨-, c, h⟩ | ⟨-, c, h⟩
  · exact absurd n6 h.1
  · rw [h]
    refine ⟨fun j => ?_, fun j => ?_, fun j => ?_, fun j => ?_, fun j => ?_, fun j => ?_, fun a j ha => ?_⟩
    · simp [ct0, ju]
    · simp [ct0, ju]
    · simp [ct0, ju]
    · simp [ct0, ju]
    · simp [ct0, ju]
    · rw [if_neg (fun u => u.2 c)]
      simp [ct0, ju]
    · unfold ct0
      rw [ju_c _ _ (by omega), ju_c _ _ (by omega), ju_c _ _ (by omega), ju_c _ _ (by omega), ju_c _ _ (by omega)]
  · rw [h]
    refine ⟨fun j => ?_, fun j => ?_, fun j => ?_, fun j => ?_, fun j => ?_, fun j => ?_, fun a j ha => ?_⟩
    · simp [ct0, ju]
    · simp [ct0, ju]
    · simp [ct0, ju]
    · simp [ct0, ju]
    · simp [ct0, ju]
    · by_cases e : j = s
      · rw [if_pos ⟨e, c⟩]
        simp [ct0, ju, e]
      · rw [if_neg (fun u => e u.1)]
        simp [ct0, ju, e]
    · unfold ct0
      rw [ju_c _ _ (by omega), ju_c _ _ (by omega), ju_c _ _ (by omega), ju_c _ _ (by omega), ju_c _ _ (by omega), ju_c _ _ (by omega)]
theorem ct0_f {K : jm} {x s : Int} : (∀ j : Int, ct0 K x s 636 j = if j = s then jl_w (K 636 s + 1) else K 636 j) ∧ (∀ j : Int, ct0 K x s 637 j = if j = s then jl_w (K 637 s + K 600 x) else K 637 j) ∧ (∀ j : Int, ct0 K x s 634 j = if j = s then 1 else K 634 j) ∧ ∀ (a : Nat) (j : Int), (a < 634 ∨ a = 635 ∨ 637 < a) → ct0 K x s a j = K a j := by
  refine ⟨fun j => ?_, fun j => ?_, fun j => ?_, fun a j ha => ?_⟩
  · simp [ct0, ju]
  · simp [ct0, ju]
  · simp [ct0, ju]
  · unfold ct0
    rw [ju_c _ _ (by omega), ju_c _ _ (by omega), ju_c _ _ (by omega)]
end
