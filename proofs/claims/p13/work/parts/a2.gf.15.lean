section
theorem op_turn {C D R S : jm} {r r2 : Int} (h : RDA C R) (hG : RG1 R) (hI : RI R) {x : Int} (f : FR W_c_PacketWall_turn_x C D) (p : ((x < 0 ∨ 23 < x ∨ C (xe 2 x) 1 = -1) ∧ r = -2 ∧ D = C) ∨ (((0 ≤ x ∧ x ≤ 23) ∧ C (xe 2 x) 1 ≠ -1) ∧ ∃ (C_ : Int) (H : jm), HE (rf R x) (C (xe 2 x) 1) C_ ∧ (H 3 4 = 0 ↔ hX (rf R x) (C (xe 2 x) 1) C_ = -1) ∧ FR W_c_Headers_readAll_x C H ∧ H 3 7 = ((xe 2 x : Nat) : Int) ∧ RWQ H D (rf R x) (C (xe 2 x) 1) C_ (H 3 4) (C 15 0).toNat (H 3 7) r)) (q : TU6 R S x r2) (hf : ∀ (a : Nat) (i : Int), a ≠ 598 → a ≠ 601 → a ≠ 603 → a ≠ 604 → a ≠ 605 → S a i = R a i) (hk : ∀ (i : Int), i ≠ 6 → i ≠ 10 → i ≠ 11 → i ≠ 12 → i ≠ 59 → i ≠ 60 → i ≠ 61 → i ≠ 62 → i ≠ 63 → i ≠ 64 → i ≠ 65 → i ≠ 66 → S 598 i = R 598 i) : RDA D S ∧ r = r2 := by
  have sw : ∀ (b : Nat) (i : Int), 627 ≤ b → b ≤ 642 → S b i = R b i := fun b i _ _ => hf b i (by omega) (by omega) (by omega) (by omega) (by omega)
  have s0 : ∀ i : Int, S 600 i = R 600 i := fun i => hf 600 i (by decide) (by decide) (by decide) (by decide) (by decide)
  have rest : RDw D S → RDp D S → r = r2 → RDA D S ∧ r = r2 := fun hw hp e => ⟨⟨((h.1.f f rfl).r (fun i => hf 599 i (by decide) (by decide) (by decide) (by decide) (by decide)) (hk 1 (by decide) (by decide) (by decide) (by decide) (by decide) (by decide) (by decide) (by decide) (by decide) (by decide) (by decide) (by decide))), hp, ((h.2.2.1.f f rfl).r (fun i _ _ => (hk i (by omega) (by omega) (by omega) (by omega) (by omega) (by omega) (by omega) (by omega) (by omega) (by omega) (by omega) (by omega)))), ((h.2.2.2.1.f f rfl).r (fun i => hf 622 i (by decide) (by decide) (by decide) (by decide) (by decide)) (hk 34 (by decide) (by decide) (by decide) (by decide) (by decide) (by decide) (by decide) (by decide) (by decide) (by decide) (by decide) (by decide))), ((h.2.2.2.2.1.f f rfl).r (fun a i _ _ => hf a i (by omega) (by omega) (by omega) (by omega) (by omega))), hw, ((h.2.2.2.2.2.2.f f rfl).r hG hI (fun a i _ _ => hf a i (by omega) (by omega) (by omega) (by omega) (by omega)))⟩, e⟩
  by_cases hx : 0 ≤ x ∧ x ≤ 23
  · have hN := (h.2.1 x (by omega) (by omega)).1
    rw [hN] at p
    rcases p with ⟨p0, p1, p2⟩ | ⟨p0, c1, H, p1, p2, p3, p4, p5⟩ <;> rcases q with ⟨q0, q1, q2⟩ | ⟨q0, c2, q1, q2⟩
    · rw [p2, q2]
      exact ⟨h, by omega⟩
    · exact absurd p0 (by omega)
    · exact absurd q0 (by omega)
    · have ec := HE.u p1 q1
      subst ec
      rcases p5 with ⟨a1, a2⟩ | ⟨E, a1, a2⟩
      · have ng := (a1.he p2).2.1 rfl
        rcases q2 with ⟨b0, b1, b2⟩ | ⟨b0, -⟩
        · exact rest (RDw.ot h.2.2.2.2.2.1 p3 a1.ot sw).1 (h.2.1.ot p3 a1.ot (fun b i b0 b1' => by rcases (show b = 600 ∨ b = 601 by omega) with rfl | rfl; (exact s0 i); (exact b2 i))) (by omega)
        · exact absurd b0 ng
      · have hg := (a1.he p2).1.1 rfl
        have ot := a1.ot
        have nn := a1.in1
        rcases q2 with ⟨b0, -⟩ | ⟨-, E6, b1, b2, b3⟩
        · exact absurd hg b0
        · have w6 := RDw.ot h.2.2.2.2.2.1 p3 ot b1.1
          have same : D = E → (∀ i : Int, S 601 i = R 601 i) → r = r2 → RDA D S ∧ r = r2 := fun e1 e2 e3 => rest (by rw [e1]; exact (RDw.ot h.2.2.2.2.2.1 p3 ot sw).1) (by rw [e1]; exact h.2.1.ot p3 ot (fun b i b0 b1' => by rcases (show b = 600 ∨ b = 601 by omega) with rfl | rfl; (exact s0 i); (exact e2 i))) e3
          have v0 : (E 15 0).toNat = (C 15 0).toNat := by rw [w6.2.1]
          rcases nn.2 with ⟨m0, m1, m2⟩ | ⟨m0, m1, m2⟩
          · -- the packet quotes another: no flow of its own ends is changed
            rcases a2 with ⟨a3, a4, a5⟩ | ⟨a3, -⟩ | ⟨a3, -⟩
            · rcases b3 with ⟨b4, b5, b6⟩ | ⟨b4, -⟩
              · exact same a5 b6 (by omega)
              · exfalso
                rcases fe6_r E6 24 0 (by decide) with u | u
                · exact b4.1 u
                · have s6 := (sd6_r E6 (fe6 E6 24 0)).resolve_left u.2
                  have fl := (w6.1.2 (fe6 E6 24 0) (by omega) (by omega)).2 s6.1.1
                  have k7 : E6 598 60 = 1 := by rw [b2.1.1.2, m0.1]; rfl
                  rcases fl.2.2.2.1 with z | z
                  · exact b4.2 z.1
                  · exact z.2.2.2.2 (by rw [s6.1.2, k7])
            · omega
            · omega
          · have eq := eqe m2 b2
            have fe := fe_eq w6.1 eq 24 0 (by decide) (by decide)
            rw [v0] at fe
            rw [fe] at a2
            rcases a2 with ⟨a3, -⟩ | ⟨a3, a4, a5, a6⟩ | ⟨a3, a4, a5, a6, a7⟩
            · omega
            · rcases b3 with ⟨b4, b5, b6⟩ | ⟨b4, -⟩
              · exact same a6 b6 (by omega)
              · exfalso
                rcases a4 with u | u
                · exact b4.1 u
                · have rr := (fe6_r E6 24 0 (by decide)).resolve_left b4.1
                  have s6 := (sd6_r E6 (fe6 E6 24 0)).resolve_left rr.2
                  have fl := (w6.1.2 (fe6 E6 24 0) (by omega) (by omega)).2 s6.1.1
                  rw [v0] at fl
                  exact b4.2 (fl.1.2.2.2.2.symm.trans u)
            · have rr := (fe6_r E6 24 0 (by decide)).resolve_left a4.1
              have s6 := (sd6_r E6 (fe6 E6 24 0)).resolve_left rr.2
              have fl := (w6.1.2 (fe6 E6 24 0) (by omega) (by omega)).2 s6.1.1
              have sd := sd_eq w6.1 eq (f := fe6 E6 24 0) (by omega) (by omega)
              rw [v0] at fl sd
              rw [sd] at a5
              rcases b3 with ⟨b4, -⟩ | ⟨b4, b5, b6, b7⟩
              · exfalso
                rcases b4 with u | u
                · exact a4.1 u
                · exact a4.2 (fl.1.2.2.2.2.trans u)
              · have er : r = r2 := a5.trans b5.symm
                have pp : R 600 x = R 600 x := rfl
                refine rest ?_ ?_ er
                · refine RDw.r (RDw.e w6.1 (fun b k b0 b1' => a7 b k ?_) (a7 15 0 ?_) (a7 15 1 ?_)) (fun b i u v => (sw b i u v).trans (b1.1 b i u v).symm)
                  · rw [p4]
                    have := xpk (g := x) (by omega)
                    omega
                  · rw [p4]
                    have := xpk (g := x) (by omega)
                    omega
                  · rw [p4]
                    have := xpk (g := x) (by omega)
                    omega
                · have hp := h.2.1.ot p3 ot (S := R) (fun _ _ _ _ => rfl)
                  have A0 : (if r = 0 then E (xe (C 15 0).toNat (fe6 E6 24 0)) 14 else E (xe (C 15 0).toNat (fe6 E6 24 0) + 1) 0) = (if r2 = 0 then E6 641 (fe6 E6 24 0) else E6 630 (2 * fe6 E6 24 0)) := by
                    rw [er, fl.s0.1.1]
                    rcases fl.2.2.2.1 with z | z
                    · exact absurd z.1 b4.2
                    · rw [z.2.1]
                  have P0 : (if r = 0 then E (xe (C 15 0).toNat (fe6 E6 24 0)) 15 else E (xe (C 15 0).toNat (fe6 E6 24 0) + 2) 0) = (if r2 = 0 then E6 642 (fe6 E6 24 0) else E6 631 (2 * fe6 E6 24 0)) := by
                    rw [er, fl.s0.1.2.1]
                    rcases fl.2.2.2.1 with z | z
                    · exact absurd z.1 b4.2
                    · rw [z.2.2.1]
                  rw [A0, P0, nn.1.1, nn.1.2, er, p4] at a6
                  have zx := xpk (g := x) (by omega)
                  have st : (((xe 2 x : Nat) : Int)).toNat = xe 2 x := Int.toNat_natCast _
                  rw [st] at a6
                  refine rdp_bytes hp (x := x) (by omega) (fun b b0 b1' => ?_) (fun i i0 i1 => (a6 i i0 i1).1) (fun i _ _ => congrFun b6 i) (fun _ _ _ => rfl) (fun b b0 b1' e i => ?_) b7
                  · have zb := xpk (g := b) ⟨b0, b1'⟩
                    rw [a7 _ 1 (by rw [p4, st]; omega), s0 b]
                    exact (hp b b0 b1').1
                  · have n := xpk_ne (p := b) (x := x) ⟨b0, b1'⟩ (by omega) e
                    exact a7 _ i (by rw [p4, st]; exact n.2.2.2)
  · rcases p with ⟨p0, p1, p2⟩ | ⟨p0, -⟩
    · rcases q with ⟨q0, q1, q2⟩ | ⟨q0, -⟩
      · rw [p2, q2]
        exact ⟨h, by omega⟩
      · exact absurd q0.1 hx
    · exact absurd p0.1 hx
end

