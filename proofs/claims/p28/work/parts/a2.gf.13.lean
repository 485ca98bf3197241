section
theorem op_turn {C D R S : jm} {r r2 : Int} (h : RDA C R) (hG : RG1 R) (hI : RI R) {x : Int} (f : FR W_c_PacketWall_turn_x C D) (p : ((x < 0 ∨ 23 < x ∨ C (xe 2 x) 1 = -1) ∧ r = -2 ∧ D = C) ∨ (((0 ≤ x ∧ x ≤ 23) ∧ C (xe 2 x) 1 ≠ -1) ∧ ∃ (C_ : Int) (H : jm), HE (rf R x) (C (xe 2 x) 1) C_ ∧ (H 3 4 = 0 ↔ hX (rf R x) (C (xe 2 x) 1) C_ = -1) ∧ FR W_c_Headers_readAll_x C H ∧ H 3 7 = ((xe 2 x : Nat) : Int) ∧ RWQ H D (rf R x) (C (xe 2 x) 1) C_ (H 3 4) (C 15 0).toNat (H 3 7) r)) (q : TU6 R S x r2) (hf : ∀ (a : Nat) (i : Int), a ≠ 598 → a ≠ 601 → a ≠ 603 → a ≠ 604 → a ≠ 605 → S a i = R a i) (hk : ∀ (i : Int), i ≠ 6 → i ≠ 10 → i ≠ 11 → i ≠ 12 → i ≠ 59 → i ≠ 60 → i ≠ 61 → i ≠ 62 → i ≠ 63 → i ≠ 64 → i ≠ 65 → i ≠ 66 → S 598 i = R 598 i) : RDA D S ∧ r = r2 := by
  have sw : ∀ (b : Nat) (i : Int), 627 ≤ b → b ≤ 642 → S b i = R b i := fun b i _ _ => hf b i (by omega) (by omega) (by omega) (by omega) (by omega)
  have s0 : ∀ i : Int, S 600 i = R 600 i := fun i => hf 600 i (by decide) (by decide) (by decide) (by decide) (by decide)
  have rest : RDw D S → RDp D S → r = r2 → RDA D S ∧ r = r2 := fun hw hp e => ⟨⟨((h.1.f f rfl).r (fun i => hf 599 i (by decide) (by decide) (by decide) (by decide) (by decide)) (hk 1 (by decide) (by decide) (by decide) (by decide) (by decide) (by decide) (by decide) (by decide) (by decide) (by decide) (by decide) (by decide))), hp, ((h.2.2.1.f f rfl).r (fun i _ _ => (hk i (by omega) (by omega) (by omega) (by omega) (by omega) (by omega) (by omega) (by omega) (by omega) (by omega) (by omega) (by omega)))), ((h.2.2.2.1.f f rfl).r (fun i => hf 622 i (by decide) (by decide) (by decide) (by decide) (by decide)) (hk 34 (by decide) (by decide) (by decide) (by decide) (by decide) (by decide) (by decide) (by decide) (by decide) (by decide) (by decide) (by decide))), ((h.2.2.2.2.1.f f rfl).r (fun a i _ _ => hf a i (by omega) (by omega) (by omega) (by omega) (by omega))), hw, ((h.2.2.2.2.2.2.f f rfl).r hG hI (fun a i _ _ => hf a i (by omega) (by omega) (by omega) (by omega) (by omega)))⟩, e⟩
  by_cases hx : 0 ≤ x ∧ x ≤ 23
  · have hN := (h.2.1 x (by omega) (by omega)).1
    rw [hN] at p
    rcases p with ⟨p0, p1, p2⟩ | ⟨p0, c1, H, p1, p2, p3, p4, p5⟩ <;> rcases q with ⟨q0, q1, q2⟩ | ⟨q0, c2, q1, q2⟩
    · rw [p2, q2]
      exact ⟨h, by omega⟩
    · exact absurd p0 (by omega)
    · exact absurd q0 (by omega)
    · have ec := HE.u p1 q1
      subst ec
      rcases p5 with ⟨a1, a2⟩ | ⟨E, a1, a2⟩
      · have ng := (a1.he p2).2.1 rfl
        rcases q2 with ⟨b0, b1, b2⟩ | ⟨b0, -⟩
        · exact rest (RDw.ot h.2.2.2.2.2.1 p3 a1.ot sw).1 (h.2.1.ot p3 a1.ot (fun b i b0 b1' => by rcases (show b = 600 ∨ b = 601 by omega) with rfl | rfl; (exact s0 i); (exact b2 i))) (by omega)
        · exact absurd b0 ng
      · have hg := (a1.he p2).1.1 rfl
        have ot := a1.ot
        have nn := a1.in1
        rcases q2 with ⟨b0, -⟩ | ⟨-, E6, b1, b2, b3⟩
        · exact absurd hg b0
        · have w6 := RDw.ot h.2.2.2.2.2.1 p3 ot b1.1
          have same : D = E → (∀ i : Int, S 601 i = R 601 i) → r = r2 → RDA D S ∧ r = r2 := fun e1 e2 e3 => rest (by rw [e1]; exact (RDw.ot h.2.2.2.2.2.1 p3 ot sw).1) (by rw [e1]; exact h.2.1.ot p3 ot (fun b i b0 b1' => by rcases (show b = 600 ∨ b = 601 by omega) with rfl | rfl; (exact s0 i); (exact e2 i))) e3
          have v0 : (E 15 0).toNat = (C 15 0).toNat := by rw [w6.2.1]
          rcases nn.2 with ⟨m0, m1, m2⟩ | ⟨m0, m1, m2⟩
          · -- the packet quotes another: no flow of its own ends is changed
            rcases a2 with ⟨a3, a4, a5⟩ | ⟨a3, -⟩ | ⟨a3, -⟩
            · rcases b3 with ⟨b4, b5, b6⟩ | ⟨b4, -⟩
              · exact same a5 b6 (by omega)
              · exfalso
                rcases fe6_r E6 24 0 (by decide) with u | u
                · exact b4.1 u
                · have s6 := (sd6_r E6 (fe6 E6 24 0)).resolve_left u.2
                  have fl := (w6.1.2 (fe6 E6 24 0) (by omega) (by omega)).2 s6.1.1
                  have k7 : E6 598 60 = 1 := by rw [b2.1.1.2, m0.1]; rfl
                  rcases fl.2.2.2.1 with z | z
                  · exact b4.2 z.1
                  · exact z.2.2.2.2 (by rw [s6.1.2, k7])
            · omega
            · omega
          · have eq := eqe m2 b2
            have fe := fe_eq w6.1 eq 24 0 (by decide) (by decide)
            rw [v0] at fe
            rw [fe] at a2
            rcases a2 with ⟨a3, -⟩ | ⟨a3, a4, a5, a6⟩ | ⟨a3, a4, a5, a6, a7⟩
            · omega
            · rcases b3 with ⟨b4, b5, b6⟩ | ⟨b4, -⟩
              · exact same a6 b6 (by omega)
              · exfalso
                rcases a4 with u | u
                · exact b4.1 u
                · have rr := (fe6_r E6 24 0 (by decide)).resolve_left b4.1
                  have s6 := (sd6_r E6 (fe6 E6 24 0)).resolve_left rr.2
                  have fl := (w6.1.2 (fe6 E6 24 0) (by omega) (by omega)).2 s6.1.1
                  rw [v0] at fl
                  exact b4.2 (fl.1.2.2.2.2.symm.trans u)
            · have rr := (fe6_r E6 24 0 (by decide)).resolve_left a4.1
              have s6 := (sd6_r E6 (fe6 E6 24 0)).resolve_left rr.2
              have fl := (w6.1.2 (fe6 E6 24 0) (by omega) (by omega)).2 s6.1.1
              have sd := sd_eq w6.1 eq (f := fe6 E6 24 0) (by omega) (by omega)
              rw [v0] at fl sd
              rw [sd] at a5
              rcases b3 with ⟨b4, -⟩ | ⟨b4, b5, b6, b7⟩
              · exfalso
                rcases b4 with u | u
                · exact a4.1 u
                · exact a4.2 (fl.1.2.2.2.2.trans u)
              · have er : r = r2 := a5.trans b5.symm
                have pp : R 600 x = R 600 x := rfl
                refine rest ?_ ?_ er
                · refine RDw.r (RDw.e w6.1 (fun b k b0 b1' => a7 b k ?_) (a7 15 0 ?_) (a7 15 1 ?_)) (fun b i u v => (sw b i u v).trans (b1.1 b i u v).symm)
                  · rw [p4]
                    have := xpk (g := x) (by omega)
                    omega
                  · rw [p4]
                    have := xpk (g := x) (by omega)
                    omega
                  · rw [p4]
                    have := xpk (g := x) (by omega)
                    omega
                · have hp := h.2.1.ot p3 ot (S := R) (fun _ _ _ _ => rfl)
                  have A0 : (if r = 0 then E (xe (C 15 0).toNat (fe6 E6 24 0)) 14 else E (xe (C 15 0).toNat (fe6 E6 24 0) + 1) 0) = (if r2 = 0 then E6 641 (fe6 E6 24 0) else E6 630 (2 * fe6 E6 24 0)) := by
                    rw [er, fl.s0.1.1]
                    rcases fl.2.2.2.1 with z | z
                    · exact absurd z.1 b4.2
                    · rw [z.2.1]
                  have P0 : (if r = 0 then E (xe (C 15 0).toNat (fe6 E6 24 0)) 15 else E (xe (C 15 0).toNat (fe6 E6 24 0) + 2) 0) = (if r2 = 0 then E6 642 (fe6 E6 24 0) else E6 631 (2 * fe6 E6 24 0)) := by
                    rw [er, fl.s0.1.2.1]
                    rcases fl.2.2.2.1 with z | z
                    · exact absurd z.1 b4.2
                    · rw [z.2.2.1]
                  rw [A0, P0, nn.1.1, nn.1.2, er, p4] at a6
                  have zx := xpk (g := x) (by omega)
                  have st : (((xe 2 x : Nat) : Int)).toNat = xe 2 x := Int.toNat_natCast _
                  rw [st] at a6
                  refine rdp_bytes hp (x := x) (by omega) (fun b b0 b1' => ?_) (fun i i0 i1 => (a6 i i0 i1).1) (fun i _ _ => congrFun b6 i) (fun _ _ _ => rfl) (fun b b0 b1' e i => ?_) b7
                  · have zb := xpk (g := b) ⟨b0, b1'⟩
                    rw [a7 _ 1 (by rw [p4, st]; omega), s0 b]
                    exact (hp b b0 b1').1
                  · have n := xpk_ne (p := b) (x := x) ⟨b0, b1'⟩ (by omega) e
                    exact a7 _ i (by rw [p4, st]; exact n.2.2.2)
  · rcases p with ⟨p0, p1, p2⟩ | ⟨p0, -⟩
    · rcases q with ⟨q0, q1, q2⟩ | ⟨q0, -⟩
      · rw [p2, q2]
        exact ⟨h, by omega⟩
      · exact absurd q0.1 hx
    · exact absurd p0.1 hx
end
section
/-! ===== both sides answer alike: track ===== -/
/-- the reference holds the headers of f; the packet's own header is I -/
noncomputable def TKC (M : jm) (f : Int → Int) (N C x I : Int) : Prop := HT M f N C ∧ (0 ≤ I ∧ I < C) ∧ M 598 65 = I ∧ rf M x = f ∧ M 600 x = N
theorem TKC.e {E M : jm} {f : Int → Int} {N C x I : Int} (h : TKC E f N C x I) (e : ∀ (b : Nat) (i : Int), 600 ≤ b → b ≤ 605 → M b i = E b i) (e6 : M 598 6 = E 598 6) (e5 : M 598 65 = E 598 65) : TKC M f N C x I := by
  obtain ⟨h1, h2, h3, h4, h5⟩ := h
  refine ⟨⟨by rw [e6]; exact h1.1, fun i i0 i1 => ?_, h1.2.2⟩, h2, by rw [e5]; exact h3, ?_, by rw [e 600 x (by decide) (by decide)]; exact h5⟩
  · rw [e (602 + 1) i (by decide) (by decide), e (602 + 2) i (by decide) (by decide), e (602 + 3) i (by decide) (by decide)]
    exact h1.2.1 i i0 i1
  · rw [← h4]
    exact rf_e (fun i => e 601 i (by decide) (by decide))
theorem tk_v8 {M : jm} {f : Int → Int} {N C I : Int} (ht : HT M f N C) (hi : 0 ≤ I ∧ I < C) (k8 : kA f N C I = 8) : vA f N C I 5 = f (hY f N I + 13) ∧ vA f N C I 2 = nbs f (hY f N I + 4) 4 ∧ vA f N C I 6 = tw f (hY f N I + 14) ∧ hX f N I = 8 := by
  have k := k8
  rw [kA_i hi] at k
  have y0 := ht.y hi
  have b := HT.f ht hi
  rw [k] at b
  have l20 : lst 8 = 20 := rfl
  have hN := ht.2.2.1
  have b13 := ht.2.2.2 (hY f N I + 13) (by omega) (by omega)
  have b14 := ht.2.2.2 (hY f N I + 14) (by omega) (by omega)
  have b15 := ht.2.2.2 (hY f N I + 14 + 1) (by omega) (by omega)
  have r4 := nbs_r4 (f := f) (y := hY f N I + 4) (n := 4) (by decide) (fun i i0 i1 => ht.2.2.2 i (by omega) (by omega))
  rw [vA_k (j := 5) hi k (by decide +kernel), vof_8_5, vA_k (j := 2) hi k (by decide +kernel), vof_8_2, vA_k (j := 6) hi k (by decide +kernel), vof_8_6, nbs_1, nbs_2]
  unfold tw
  omega
theorem tk_v7 {M : jm} {f : Int → Int} {N C I : Int} (ht : HT M f N C) (hi : 0 ≤ I ∧ I < C) (k7 : kA f N C I = 7) : vA f N C I 0 = f (hY f N I) := by
  have k := k7
  rw [kA_i hi] at k
  have y0 := ht.y hi
  have b := HT.f ht hi
  rw [k] at b
  have l8 : lst 7 = 8 := rfl
  have hN := ht.2.2.1
  have b0 := ht.2.2.2 (hY f N I) (by omega) (by omega)
  rw [vA_k (j := 0) hi k (by decide +kernel), vof_7_0, nbs_1, Int.add_zero]
  omega
theorem TKC.v {M : jm} {f : Int → Int} {N C x I : Int} (h : TKC M f N C x I) (k8 : kA f N C I = 8) : clE M x = tsS f N C I ∧ lg6 M x = tsN f N C I ∧ sq6 M x = tsQ f N C I ∧ tw (rf M x) (M 604 (M 598 65) + 14) = vA f N C I 6 := by
  obtain ⟨h1, h2, h3, h4, h5⟩ := h
  have v := tk_v8 h1 h2 k8
  have b := HT.f h1 h2
  have e13 : M 601 (400 * x + (hY f N I + 13)) = f (hY f N I + 13) := congrFun h4 (hY f N I + 13)
  have en : enf f N C I = hY f N I + hZ f N I := by
    unfold enf
    rw [if_pos h2]
  refine ⟨?_, ?_, ?_, ?_⟩
  · unfold clE tsS
    rw [h3, b.2.1, e13, v.1]
  · unfold lg6 tsN
    rw [h3, b.2.1, b.2.2.1, e13, v.1, h5, en]
    omega
  · unfold sq6 tsQ
    rw [h3, b.2.1, h4, v.2.1]
  · rw [h3, b.2.1, h4, v.2.2.1]
/-- a flow before it takes a packet in: all but its state, its end and who has sent -/
noncomputable def FP (C R : jm) (t : Nat) (f : Int) : Prop := (C t 1 = R 628 f ∧ C t 2 = R 629 f ∧ C t 13 = R 640 f) ∧ (∀ s : Int, 0 ≤ s → s < 2 → (C (t + 1) s = R 630 (2 * f + s) ∧ C (t + 2) s = R 631 (2 * f + s) ∧ C (t + 5) s = R 635 (2 * f + s)) ∧ (C (t + 6) s = R 636 (2 * f + s) ∧ C (t + 7) s = R 637 (2 * f + s)) ∧ C (t + 4) s = R 632 (2 * f + s) ∧ C (t + 3) s = l6x R (2 * f + s)) ∧ C t 12 = R 634 (2 * f + 1) ∧ ((R 640 f = -1 ∧ C t 15 = -1) ∨ (R 640 f ≠ -1 ∧ C t 14 = R 641 f ∧ C t 15 = R 642 f ∧ R 628 f = 0 ∧ R 629 f ≠ 1))
theorem FL.p {C R : jm} {t : Nat} {f : Int} (h : FL C R t f) : FP C R t f := ⟨⟨h.1.1, h.1.2.1, h.1.2.2.2.2⟩, h.2.1, h.2.2.1.1, h.2.2.2.1⟩
end
