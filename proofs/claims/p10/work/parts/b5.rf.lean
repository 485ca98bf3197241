section
/-! ===== both sides answer alike: track, the whole ===== -/
theorem scf_r (x : Int) : 0 ≤ scf x ∧ scf x ≤ 5 := by
  unfold scf
  (repeat' split) <;> omega
theorem nxk_r {k : Int} (h : 7 ≤ k ∧ k ≤ 9) : (k = 7 ∧ nxk k = 1) ∨ (k = 8 ∧ nxk k = 6) ∨ (k = 9 ∧ nxk k = 17) := by
  rcases (show k = 7 ∨ k = 8 ∨ k = 9 by omega) with rfl | rfl | rfl
  · exact Or.inl ⟨rfl, rfl⟩
  · exact Or.inr (Or.inl ⟨rfl, rfl⟩)
  · exact Or.inr (Or.inr ⟨rfl, rfl⟩)
theorem may_iff {M : jm} {f : Int → Int} {N C x I : Int} (h : TKC M f N C x I) (hk : 7 ≤ kA f N C I ∧ kA f N C I ≤ 9) (hn : M 598 60 = nxk (kA f N C I)) : mayF f N C I (M 598 60) ↔ mayE M x := by
  unfold mayF mayE
  rw [hn]
  rcases nxk_r hk with ⟨k, e⟩ | ⟨k, e⟩ | ⟨k, e⟩
  · have v := tk_v7 h.1 h.2.1 k
    have b := (HT.f h.1 h.2.1).2.1
    have e0 : M 601 (400 * x + M 604 (M 598 65)) = f (hY f N I) := by rw [h.2.2.1, b]; exact congrFun h.2.2.2.1 (hY f N I)
    rw [e, v, e0]
    constructor
    · intro u
      exact Or.inr ⟨by decide, Or.inr (u.2 rfl)⟩
    · intro u
      refine ⟨fun z => absurd z (by decide), fun _ => ?_⟩
      rcases u with u | u
      · exact absurd u.1 (by decide)
      · rcases u.2 with z | z
        · exact absurd z (by decide)
        · exact z
  · have v := (h.v k).1
    rw [e, v]
    constructor
    · intro u
      exact Or.inl ⟨rfl, u.1 rfl⟩
    · intro u
      refine ⟨fun _ => ?_, fun z => absurd z (by decide)⟩
      rcases u with u | u
      · exact u.2
      · exact absurd rfl u.1
  · rw [e]
    constructor
    · intro u
      exact Or.inr ⟨by decide, Or.inl rfl⟩
    · intro u
      exact ⟨fun z => absurd z (by decide), fun z => absurd z (by decide)⟩
theorem af_eq {M : jm} {x g s c z : Int} (h7 : ∀ i : Int, 0 ≤ i → i < 100 → M 647 i = xcv_5 i) (hc : clE M x = c) (hs : M 638 g = s) (hz : M 598 66 = z) (c5 : 0 ≤ c ∧ c ≤ 5) (s10 : 1 ≤ s ∧ s ≤ 10) (z1 : z = 0 ∨ z = 1) : afE M x g = tsB s c z := by
  unfold afE tsB
  rw [hc, hs, hz]
  by_cases u : c = 5
  · rw [if_pos u, if_neg (by omega)]
  · rw [if_neg u, if_pos (by omega), h7 _ (by omega) (by omega)]
theorem io_eq {C R : jm} {t : Nat} {x g c z q n : Int} (h : FL C R t g) (hz : R 598 66 = z) (z1 : z = 0 ∨ z = 1) (hc : c = 2 ∨ c = 4) (hq : sq6 R x = q) (hn : lg6 R x = n) : ioF C t z q n = io6 R x g c := by
  have fz := h.2.1 z (by omega) (by omega)
  have fo := h.2.1 (1 - z) (by omega) (by omega)
  have e1 : 2 * g + 1 - z = 2 * g + (1 - z) := by omega
  have an : (z = 1 ∨ C t 12 ≠ 0) ↔ R 634 (2 * g + (1 - z)) ≠ 0 := by
    rcases z1 with v | v
    · subst v
      rw [h.2.2.1.1]
      exact ⟨fun u => u.resolve_left (by decide), fun u => Or.inr u⟩
    · subst v
      rw [show 2 * g + (1 - 1) = 2 * g by omega, h.2.2.1.2]
      exact ⟨fun _ => by decide, fun _ => Or.inl rfl⟩
  unfold ioF io6
  rw [hz, hq, hn, e1, fz.2.2.1, fz.2.2.2, fo.1.2.2]
  by_cases v : R 632 (2 * g + z) = 0
  · rw [if_pos v, if_pos (Or.inr v)]
  · have e : l6x R (2 * g + z) = R 633 (2 * g + z) := by unfold l6x; exact if_neg v
    rw [e, if_neg v, if_neg (show ¬ ((c ≠ 2 ∧ c ≠ 4) ∨ R 632 (2 * g + z) = 0) by omega)]
    simp only [an]
theorem fp_forget {C R B B6 : jm} {t : Nat} {g : Int} (h : FL C R t g) (a : FGT C B t) (b : FG6 R B6 g (2 * g + 2)) (o : OFG R B6) : FP B B6 t g := by
  obtain ⟨a1, a2, a3, a4⟩ := a
  have b1 := fun s (s0 : 0 ≤ s) (s1 : s < (2 : Int)) => b.1 (2 * g + s) (by omega) (by omega)
  have o' : ∀ (a : Nat) (i : Int), (a < 632 ∨ 637 < a) → B6 a i = R a i := fun a i ha => o a i (by omega) (by omega) (by omega) (by omega) (by omega) (by omega)
  refine ⟨⟨?_, ?_, ?_⟩, fun s s0 s1 => ⟨⟨?_, ?_, ?_⟩, ⟨?_, ?_⟩, ?_, ?_⟩, ?_, ?_⟩
  · rw [a3 1 (by decide), o' 628 g (by decide)]; exact h.1.1
  · rw [a3 2 (by decide), o' 629 g (by decide)]; exact h.1.2.1
  · rw [a3 13 (by decide), o' 640 g (by decide)]; exact h.1.2.2.2.2
  · rw [a4 (t + 1) s (by omega) (by omega) (by omega) (by omega) (by omega) (by omega), o' 630 _ (by decide)]; exact (h.2.1 s s0 s1).1.1
  · rw [a4 (t + 2) s (by omega) (by omega) (by omega) (by omega) (by omega) (by omega), o' 631 _ (by decide)]; exact (h.2.1 s s0 s1).1.2.1
  · rw [(a1 s s0 s1).2.2.1, (b1 s s0 s1).2.2.2.1]
  · rw [(a1 s s0 s1).2.2.2.1, (b1 s s0 s1).2.2.2.2.1]
  · rw [(a1 s s0 s1).2.2.2.2, (b1 s s0 s1).2.2.2.2.2]
  · rw [(a1 s s0 s1).2.1, (b1 s s0 s1).1]
  · unfold l6x
    rw [(a1 s s0 s1).1, (b1 s s0 s1).1, if_pos rfl]
  · rw [a2, (b1 1 (by decide) (by decide)).2.2.1]
  · rw [o' 640 g (by decide), o' 641 g (by decide), o' 642 g (by decide), o' 628 g (by decide), o' 629 g (by decide), a3 14 (by decide), a3 15 (by decide)]
    exact h.2.2.2.1
theorem fp_begin {E E6 B B6 : jm} {t : Nat} {g : Int} (e : EQE E E6) (a : BGN E B t) (b : BF6 E6 B6 g) : FP B (ju B6 598 66 0) t g := by
  obtain ⟨a1, a2, a3, a4⟩ := a
  obtain ⟨b1, b2, b3, b4⟩ := b
  have j : ∀ (c : Nat) (i : Int), c ≠ 598 → ju B6 598 66 0 c i = B6 c i := fun c i hc => ju_c _ _ hc
  have x0 := a2 0 (by decide) (by decide)
  have x1 := a2 1 (by decide) (by decide)
  refine ⟨⟨?_, ?_, ?_⟩, fun s s0 s1 => ?_, ?_, Or.inl ⟨?_, a1.2.2.2.2.2.1⟩⟩
  · rw [a1.2.1, j 628 g (by decide), b1.2.1]; exact e.1.1
  · rw [a1.2.2.1, j 629 g (by decide), b1.2.2.1]; exact e.1.2
  · rw [a1.2.2.2.2.1, j 640 g (by decide), b1.2.2.2.2.2.2.2]
  · have z := a2 s s0 s1
    have y := b2 (2 * g + s) (by omega) (by omega)
    refine ⟨⟨?_, ?_, ?_⟩, ⟨?_, ?_⟩, ?_, ?_⟩
    · rw [j 630 _ (by decide)]
      rcases (show s = 0 ∨ s = 1 by omega) with rfl | rfl
      · rw [x0.1.1, Int.add_zero, b1.2.2.2.1]; exact e.2.1.1
      · rw [x1.1.1, b1.2.2.2.2.1]; exact e.2.1.2
    · rw [j 631 _ (by decide)]
      rcases (show s = 0 ∨ s = 1 by omega) with rfl | rfl
      · rw [x0.1.2, Int.add_zero, b1.2.2.2.2.2.1]; exact e.2.2.1
      · rw [x1.1.2, b1.2.2.2.2.2.2.1]; exact e.2.2.2
    · rw [j 635 _ (by decide), z.2.2.2.1, y.2.2.2.1]
    · rw [j 636 _ (by decide), z.2.2.2.2.1, y.2.2.2.2.1]
    · rw [j 637 _ (by decide), z.2.2.2.2.2, y.2.2.2.2.2]
    · rw [j 632 _ (by decide), z.2.2.1, y.1]
    · unfold l6x
      rw [j 632 _ (by decide), z.2.1, y.1, if_pos rfl]
  · rw [a1.2.2.2.2.2.2, j 634 _ (by decide), (b2 (2 * g + 1) (by omega) (by omega)).2.2.1]
  · rw [j 640 g (by decide)]; exact b1.2.2.2.2.2.2.2
theorem O7.t {R B S : jm} {g : Int} (h : O7 B S g) (e : O7 R B g) : O7 R S g := ⟨fun b j hj hb => (h.1 b j hj hb).trans (e.1 b j hj hb), fun b j hj hb => (h.2 b j hj hb).trans (e.2 b j hj hb)⟩
theorem O7.b {E6 B6 : jm} {g : Int} (b : BF6 E6 B6 g) (o : OBF E6 B6) : O7 E6 (ju B6 598 66 0) g := by
  refine ⟨fun c j hj hc => ?_, fun c j hj hc => ?_⟩
  · rw [ju_c _ _ (by omega)]
    rcases (show c = 627 ∨ c = 628 ∨ c = 629 ∨ c = 640 ∨ (c = 638 ∨ c = 639 ∨ c = 641 ∨ c = 642) by omega) with rfl | rfl | rfl | rfl | hc
    · exact (b.2.2.1 j hj).1
    · exact (b.2.2.1 j hj).2.1
    · exact (b.2.2.1 j hj).2.2.1
    · exact (b.2.2.1 j hj).2.2.2
    · exact o c j (by omega) (by omega) (by omega) (by omega) (by omega) (by omega) (by omega) (by omega) (by omega) (by omega) (by omega) (by omega)
  · rw [ju_c _ _ (by omega)]
    have q := b.2.2.2 j hj
    rcases (show c = 630 ∨ c = 631 ∨ c = 632 ∨ c = 633 ∨ c = 634 ∨ c = 635 ∨ c = 636 ∨ c = 637 by omega) with rfl | rfl | rfl | rfl | rfl | rfl | rfl | rfl
    · exact q.1
    · exact q.2.1
    · exact q.2.2.1
    · exact q.2.2.2.1
    · exact q.2.2.2.2.1
    · exact q.2.2.2.2.2.1
    · exact q.2.2.2.2.2.2.1
    · exact q.2.2.2.2.2.2.2
theorem O7.g {E6 B6 : jm} {g : Int} (b : FG6 E6 B6 g (2 * g + 2)) (o : OFG E6 B6) : O7 E6 B6 g := ⟨fun c j hj hc => o c j (by omega) (by omega) (by omega) (by omega) (by omega) (by omega), fun c j hj hc => b.2 c j (by omega)⟩
theorem O7.r (M : jm) (g : Int) : O7 M M g := ⟨fun _ _ _ _ => rfl, fun _ _ _ _ => rfl⟩
theorem xcv5_z : xcv_5 85 = 0 ∧ xcv_5 95 = 0 ∧ xcv_5 0 = 1 := by decide +kernel
theorem xcv5_r {i : Int} (h0 : 0 ≤ i) (h1 : i < 100) : 0 ≤ xcv_5 i ∧ xcv_5 i ≤ 10 := xcr_5 h0 h1
theorem op_track {C D R S : jm} {r r2 : Int} (h : RDA C R) (hG : RG1 R) (hI : RI R) {x : Int} (hT : C 0 8 = R 598 2) (h7 : ∀ i : Int, 0 ≤ i → i < 100 → R 647 i = xcv_5 i) (f : FR W_c_PacketWall_track_x C D) (p : ((x < 0 ∨ 23 < x ∨ C (xe 2 x) 1 = -1) ∧ r = -2 ∧ D = C) ∨ (((0 ≤ x ∧ x ≤ 23) ∧ C (xe 2 x) 1 ≠ -1) ∧ ∃ (C_ : Int) (H : jm), HE (rf R x) (C (xe 2 x) 1) C_ ∧ (H 3 4 = 0 ↔ hX (rf R x) (C (xe 2 x) 1) C_ = -1) ∧ FR W_c_Headers_readAll_x C H ∧ PTQ H D (rf R x) (C (xe 2 x) 1) C_ (H 3 4) (C 15 0).toNat (C 0 8) r)) (q : TR6 R S x r2) (hf : ∀ (a : Nat) (i : Int), a ≠ 598 → a ≠ 603 → a ≠ 604 → a ≠ 605 → a ≠ 627 → a ≠ 628 → a ≠ 629 → a ≠ 630 → a ≠ 631 → a ≠ 632 → a ≠ 633 → a ≠ 634 → a ≠ 635 → a ≠ 636 → a ≠ 637 → a ≠ 638 → a ≠ 639 → a ≠ 640 → S a i = R a i) (hk : ∀ (i : Int), i ≠ 6 → i ≠ 10 → i ≠ 11 → i ≠ 12 → i ≠ 59 → i ≠ 60 → i ≠ 61 → i ≠ 62 → i ≠ 63 → i ≠ 64 → i ≠ 65 → i ≠ 66 → S 598 i = R 598 i) : RDA D S ∧ r = r2 := by
  have rest : RDw D S → r = r2 → RDA D S ∧ r = r2 := fun hw e => ⟨⟨((h.1.f f rfl).r (fun i => hf 599 i (by decide) (by decide) (by decide) (by decide) (by decide) (by decide) (by decide) (by decide) (by decide) (by decide) (by decide) (by decide) (by decide) (by decide) (by decide) (by decide) (by decide) (by decide)) (hk 1 (by decide) (by decide) (by decide) (by decide) (by decide) (by decide) (by decide) (by decide) (by decide) (by decide) (by decide) (by decide))), ((h.2.1.f f rfl).r (fun a i _ _ => hf a i (by omega) (by omega) (by omega) (by omega) (by omega) (by omega) (by omega) (by omega) (by omega) (by omega) (by omega) (by omega) (by omega) (by omega) (by omega) (by omega) (by omega) (by omega))), ((h.2.2.1.f f rfl).r (fun i _ _ => (hk i (by omega) (by omega) (by omega) (by omega) (by omega) (by omega) (by omega) (by omega) (by omega) (by omega) (by omega) (by omega)))), ((h.2.2.2.1.f f rfl).r (fun i => hf 622 i (by decide) (by decide) (by decide) (by decide) (by decide) (by decide) (by decide) (by decide) (by decide) (by decide) (by decide) (by decide) (by decide) (by decide) (by decide) (by decide) (by decide) (by decide)) (hk 34 (by decide) (by decide) (by decide) (by decide) (by decide) (by decide) (by decide) (by decide) (by decide) (by decide) (by decide) (by decide))), ((h.2.2.2.2.1.f f rfl).r (fun a i _ _ => hf a i (by omega) (by omega) (by omega) (by omega) (by omega) (by omega) (by omega) (by omega) (by omega) (by omega) (by omega) (by omega) (by omega) (by omega) (by omega) (by omega) (by omega) (by omega))), hw, ((h.2.2.2.2.2.2.f f rfl).r hG hI (fun a i _ _ => hf a i (by omega) (by omega) (by omega) (by omega) (by omega) (by omega) (by omega) (by omega) (by omega) (by omega) (by omega) (by omega) (by omega) (by omega) (by omega) (by omega) (by omega) (by omega)))⟩, e⟩
  by_cases hx : 0 ≤ x ∧ x ≤ 23
  · have hN := (h.2.1 x (by omega) (by omega)).1
    rw [hN] at p
    rcases p with ⟨p0, p1, p2⟩ | ⟨p0, c1, H, p1, p2, p3, p5⟩ <;> rcases q with ⟨q0, q1, q2⟩ | ⟨q0, c2, q1, q2⟩
    · rw [p2, q2]
      exact ⟨h, by omega⟩
    · exact absurd p0 (by omega)
    · exact absurd q0 (by omega)
    · have ec := HE.u p1 q1
      subst ec
      rcases p5 with ⟨a1, a2⟩ | ⟨E, a1, a2⟩
      · have ng := (a1.he p2).2.1 rfl
        rcases q2 with ⟨b0, b1, b2⟩ | ⟨b0, -⟩ | ⟨b0, -⟩
        · exact rest (RDw.ot h.2.2.2.2.2.1 p3 a1.ot b2).1 (by omega)
        · exact absurd b0 ng
        · exact absurd b0 ng
      · have hg := (a1.he p2).1.1 rfl
        have ot := a1.ot
        have nn := a1.in1
        rcases q2 with ⟨b0, -⟩ | ⟨-, b0, E6, b1, b2, b3, b4⟩ | ⟨-, b0, E6, b1, b2, b3, b4⟩
        · exact absurd hg b0
        · rcases nn.2 with ⟨m0, m1, m2⟩ | ⟨m0, m1, m2⟩
          · have w6 := RDw.ot h.2.2.2.2.2.1 p3 ot b1.1
            have v0 : (E 15 0).toNat = (C 15 0).toNat := by rw [w6.2.1]
            have fe := fe_eq w6.1 (eqe m2 b2) 24 0 (by decide) (by decide)
            rw [v0] at fe
            rw [fe] at a2
            rcases a2 with ⟨a3, a4, a5⟩ | ⟨a3, -⟩ | ⟨a3, -⟩
            · refine rest ?_ (a4.trans b4.symm)
              rw [a5]
              exact (RDw.ot h.2.2.2.2.2.1 p3 ot b3).1
            · omega
            · omega
          · exact absurd b0 m0
        · rcases nn.2 with ⟨m0, -⟩ | ⟨m0, m1, m2⟩
          · exact absurd m0 b0
          · have w6 := RDw.ot h.2.2.2.2.2.1 p3 ot b1.1
            have v0 : (E 15 0).toNat = (C 15 0).toNat := by rw [w6.2.1]
            have eq := eqe m2 b2
            have fe := fe_eq w6.1 eq 24 0 (by decide) (by decide)
            have fr := fr_eq w6.1 24 0 (by decide) (by decide)
            have wd := w6.1
            rw [v0] at fe fr
            rw [fe, nn.1.2] at a2
            have hk := hg.2.2.2.2
            have hi := kA_in (f := rf R x) (N := R 600 x) (C := c1) (x := inf (rf R x) (R 600 x) c1 (ntf (rf R x) (R 600 x) c1)) (by omega)
            obtain ⟨t1, t2, t3, t4, t5, t6⟩ := b1
            have tkc : TKC E6 (rf R x) (R 600 x) c1 x (inf (rf R x) (R 600 x) c1 (ntf (rf R x) (R 600 x) c1)) := ⟨t3, hi, b2.2, t4, t5⟩
            have hn6 : E6 598 60 = nxk (kA (rf R x) (R 600 x) c1 (inf (rf R x) (R 600 x) c1 (ntf (rf R x) (R 600 x) c1))) := b2.1.1.2
            have h76 : ∀ i : Int, 0 ≤ i → i < 100 → E6 647 i = xcv_5 i := fun i i0 i1 => (t6 i).trans (h7 i i0 i1)
            have hZ : E6 598 2 = C 0 8 := t2.trans hT.symm
            have may := may_iff tkc hk hn6
            unfold TRN at b4
            rw [hZ] at b4
            have i01 : ∀ (b : Nat) (j : Int), (b = 632 ∨ b = 634) → 0 ≤ E6 b j ∧ E6 b j ≤ 1 := fun b j hb => by
              rw [t1 b j (by omega) (by omega)]
              rcases hb with rfl | rfl
              · have q := hI 632 j (by decide)
                rw [xri_row rfl rfl] at q
                exact q
              · have q := hI 634 j (by decide)
                rw [xri_row rfl rfl] at q
                exact q
            have one : ∀ g : Int, 0 ≤ g → g < 24 → fr7 E D (xe (C 15 0).toNat g) → O7 E6 S g → FR1 D S (xe (C 15 0).toNat g) g → RDw D S := fun g g0 g1 hd ho hn => by
              have a := xfl (V := C 15 0) h.2.2.2.2.2.1.1.1 (i := g) ⟨g0, g1⟩
              refine RDw.one wd (x := g) ⟨g0, g1⟩ (hd 15 0 (by omega)) (hd 15 1 (by omega)) (fun b k _ _ hb => hd b k ?_) ho ?_
              · rw [v0] at hb
                exact hb
              · rw [v0]
                exact hn
            rcases a2 with ⟨a3, -⟩ | ⟨a3, a4, a5⟩ | ⟨a3, a4, q', a5, a6⟩
            · omega
            · -- no flow has these ends
              rcases b4 with ⟨-, b5⟩ | ⟨b5, -⟩
              · unfold BEQ at a5
                rw [fr, eq.1.2, may] at a5
                rcases a5 with ⟨a5, a6, a7⟩ | ⟨a5, a6, a7, a8⟩ | ⟨a5, a6, a7, B, q', a8, a9⟩
                · rcases b5 with ⟨b5, b6, b7⟩ | ⟨b5, -⟩ | ⟨b5, -⟩
                  · refine rest ?_ (by omega)
                    rw [a7, b7]
                    exact wd
                  · exact absurd b5 a5
                  · exact absurd b5 a5
                · rcases b5 with ⟨b5, -⟩ | ⟨b5, b6, b7, b8⟩ | ⟨b5, b6, -⟩
                  · exact absurd a5 b5
                  · refine rest ?_ (by omega)
                    rw [a8, b8]
                    exact wd
                  · exact absurd a6 b6
                · rcases b5 with ⟨b5, -⟩ | ⟨b5, b6, -⟩ | ⟨b5, b6, b7, B6, b8, b9, b10⟩
                  · exact absurd a5 b5
                  · exact absurd b6 a6
                  · have er : r = r2 := a7.trans b7.symm
                    subst er
                    have rr := (frF_r E (C 15 0).toNat 24 0 (by decide))
                    rw [fr, ← a7] at rr
                    have rg := rr.resolve_left (by omega)
                    have fp := fp_begin eq a8 b8
                    have st5 := a8.1.2.2.2.1
                    have st2 := a8.1.2.2.1
                    have n9 : ju B6 598 66 0 629 r = E6 598 60 := (ju_c _ _ (by decide)).trans b8.1.2.2.1
                    have zz : ∀ (b : Nat), (b = 632 ∨ b = 634) → ∀ s : Int, 0 ≤ s → s < 2 → ju B6 598 66 0 b (2 * r + s) = 0 := fun b hb s s0 s1 => by
                      rw [ju_c _ _ (by omega)]
                      have q := b8.2.1 (2 * r + s) (by omega) (by omega)
                      rcases hb with rfl | rfl
                      · exact q.1
                      · exact q.2.2.1
                    have z2 := zz 632 (Or.inl rfl) 0 (by decide) (by decide)
                    have z4 := zz 634 (Or.inr rfl) 1 (by decide) (by decide)
                    have b60 : ju B6 598 66 0 600 x = R 600 x := by
                      rw [ju_c _ _ (by decide), b9 600 x (by decide) (by decide) (by decide) (by decide) (by decide) (by decide) (by decide) (by decide) (by decide) (by decide) (by decide) (by decide)]
                      exact t5
                    have frB : fr7 E B (xe (C 15 0).toNat r) := fun b k hb => a8.2.2.2 b k (by omega) (by omega) (by omega) (by omega) (by omega) (by omega) (by omega) (by omega)
                    have oB := O7.b b8 b9
                    have fin : FL D S (xe (C 15 0).toNat r) r ∧ D (xe (C 15 0).toNat r) 0 = B (xe (C 15 0).toNat r) 0 ∧ S 627 r = ju B6 598 66 0 627 r ∧ fr7 B D (xe (C 15 0).toNat r) ∧ O7 (ju B6 598 66 0) S r := by
                      rcases nxk_r hk with ⟨k, e⟩ | ⟨k, e⟩ | ⟨k, e⟩
                      · rw [hn6, e] at b10 n9
                        rcases a9 with ⟨a9, -⟩ | ⟨a9, a10, a11⟩
                        · rw [st2, eq.1.2, hn6, e] at a9
                          exact absurd a9 (by decide)
                        · exact fin1 fp (Or.inl rfl) (Or.inl rfl) n9 (Or.inl rfl) (by omega) a11 (by rw [st5, eq.1.2, hn6, e, if_neg (by omega), if_neg (by omega)]) b10 b60 (by unfold stOK; rw [if_neg (by decide)]; omega)
                      · rw [hn6, e] at b10 n9
                        rcases a9 with ⟨a9, B1, q2', a10, a11⟩ | ⟨a9, -⟩
                        · have ts : tsS (rf R x) (R 600 x) c1 (inf (rf R x) (R 600 x) c1 (ntf (rf R x) (R 600 x) c1)) = 0 := by
                            have m := may.2 a5
                            exact m.1 (by rw [hn6, e])
                          have tb : tsB (B (xe (C 15 0).toNat r) 5) (tsS (rf R x) (R 600 x) c1 (inf (rf R x) (R 600 x) c1 (ntf (rf R x) (R 600 x) c1))) 0 = 1 := by
                            rw [st5, eq.1.2, hn6, e, ts, if_pos rfl]
                            unfold tsB
                            rw [if_pos (by decide)]
                            exact xcv5_z.2.2
                          unfold TSQ at a10
                          rw [tb, ts] at a10
                          rcases a10 with ⟨a10, -⟩ | ⟨-, a10, -⟩ | ⟨-, -, a12, Bx, a13, a14⟩
                          · exact absurd a10 (by decide)
                          · omega
                          · have bx : Bx = B := by
                              rcases a13 with a13 | a13
                              · have := a13.1.2
                                rw [st5, eq.1.2, hn6, e, if_pos rfl] at this
                                omega
                              · exact a13.2
                            rw [bx] at a14
                            have dd : D = tiM B1 (xe (C 15 0).toNat r) 0 (C 0 8) (R 600 x) := by
                              rcases a11 with a11 | a11
                              · omega
                              · exact a11.2.2
                            rw [a14] at dd
                            rw [if_pos rfl] at b10
                            have tk2 : TKC (K6 (ju B6 598 66 0) r 6 (C 0 8) 1) (rf R x) (R 600 x) c1 x (inf (rf R x) (R 600 x) c1 (ntf (rf R x) (R 600 x) c1)) := tkc.e (fun b i h0 h1 => by rw [k6_f.2.2 b i (by omega), ju_c _ _ (by omega)]; exact b9 b i (by omega) (by omega) (by omega) (by omega) (by omega) (by omega) (by omega) (by omega) (by omega) (by omega) (by omega) (by omega)) (by rw [k6_f.2.2 598 6 (by omega), ju_i _ _ (by decide)]; exact b9 598 6 (by decide) (by decide) (by decide) (by decide) (by decide) (by decide) (by decide) (by decide) (by decide) (by decide) (by decide) (by decide)) (by rw [k6_f.2.2 598 65 (by omega), ju_i _ _ (by decide)]; exact b9 598 65 (by decide) (by decide) (by decide) (by decide) (by decide) (by decide) (by decide) (by decide) (by decide) (by decide) (by decide) (by decide))
                            have vv := tk2.v k
                            exact fin6 fp (Or.inl rfl) (Or.inl rfl) n9 (by omega) (by omega) dd b10 (by unfold ctE; rw [vv.2.2.1, vv.2.1]) vv.2.2.2 b60 (by decide)
                        · rw [st2, eq.1.2, hn6, e] at a9
                          exact absurd rfl a9
                      · rw [hn6, e] at b10 n9
                        rcases a9 with ⟨a9, -⟩ | ⟨a9, a10, a11⟩
                        · rw [st2, eq.1.2, hn6, e] at a9
                          exact absurd a9 (by decide)
                        · exact fin1 fp (Or.inl rfl) (Or.inl rfl) n9 (Or.inr rfl) (by omega) a11 (by rw [st5, eq.1.2, hn6, e, if_neg (by omega), if_neg (by omega)]) b10 b60 (by unfold stOK; rw [if_neg (by decide)]; omega)
                    obtain ⟨g1, g2, g3, g4, g5⟩ := fin
                    refine rest (one r (by omega) (by omega) (fun b k hb => (g4 b k hb).trans (frB b k hb)) (g5.t oB) ⟨?_, fun _ => g1⟩) rfl
                    rw [g2, g3, ju_c _ _ (by decide), a8.1.1, b8.1.1]
              · exact absurd a4 b5
            · -- the packet is of a flow
              rcases b4 with ⟨b5, -⟩ | ⟨-, b5⟩
              · exact absurd b5 a4
              · have rr := (fe6_r E6 24 0 (by decide)).resolve_left a4
                have s6 := (sd6_r E6 (fe6 E6 24 0)).resolve_left rr.2
                have w0 := wd.2 (fe6 E6 24 0) (by omega) (by omega)
                have fl := w0.2 s6.1.1
                have sd := sd_eq wd eq (f := fe6 E6 24 0) (by omega) (by omega)
                rw [v0] at fl sd w0
                have sz := b3.resolve_left a4
                rw [sd, ← sz] at a5
                have z1 : E6 598 66 = 0 ∨ E6 598 66 = 1 := by rw [sz]; exact s6.2
                have nx : E (xe (C 15 0).toNat (fe6 E6 24 0)) 2 = E6 598 60 := fl.1.2.1.trans s6.1.2
                have s634 : E6 598 66 = 0 ∨ E6 634 (2 * fe6 E6 24 0) = 1 := Or.inr fl.2.2.1.2
                have ok := fl.2.2.2.2
                rw [s6.1.2] at ok
                have i634 := i01 634 (2 * fe6 E6 24 0 + 1) (Or.inr rfl)
                have done : ∀ g : Int, g = fe6 E6 24 0 → FL D S (xe (C 15 0).toNat g) g ∧ D (xe (C 15 0).toNat g) 0 = E (xe (C 15 0).toNat g) 0 ∧ S 627 g = E6 627 g ∧ fr7 E D (xe (C 15 0).toNat g) ∧ O7 E6 S g → RDw D S := fun g eg hh => one g (by omega) (by omega) hh.2.2.2.1 hh.2.2.2.2 ⟨by rw [hh.2.1, hh.2.2.1, eg]; exact w0.1, fun _ => hh.1⟩
                rcases nxk_r hk with ⟨k, e⟩ | ⟨k, e⟩ | ⟨k, e⟩
                · have n1 : E6 598 60 = 1 := hn6.trans e
                  rcases b5 with ⟨b5, -⟩ | ⟨b5, -⟩ | ⟨b5, -⟩ | ⟨b5, b6, b7⟩
                  · omega
                  · omega
                  · omega
                  · rcases a5 with ⟨a7, -⟩ | ⟨a7, a8, a9⟩
                    · omega
                    · rw [a8, if_pos rfl] at a6
                      rw [n1] at b7 nx ok
                      rw [b6] at b7
                      have u7 : u7E E6 (fe6 E6 24 0) = (if E (xe (C 15 0).toNat (fe6 E6 24 0)) 2 = 17 ∧ E6 598 66 = 1 then 1 else E (xe (C 15 0).toNat (fe6 E6 24 0)) 5) := by
                        unfold u7E
                        rw [n1, nx, if_neg (by omega), if_neg (by omega), fl.1.2.2.1]
                        unfold stOK at ok
                        omega
                      refine rest (done _ rfl (fin1 fl.p z1 s634 (s6.1.2.trans n1) (Or.inl rfl) i634 a9 u7 b7 t5 ?_)) (by omega)
                      rw [u7, nx, if_neg (by omega), fl.1.2.2.1]
                      exact ok
                · have n6 : E6 598 60 = 6 := hn6.trans e
                  have vv := tkc.v k
                  have s10 : 1 ≤ E6 638 (fe6 E6 24 0) ∧ E6 638 (fe6 E6 24 0) ≤ 10 := by
                    rw [n6] at ok
                    unfold stOK at ok
                    omega
                  have c5 : 0 ≤ clE E6 x ∧ clE E6 x ≤ 5 := scf_r _
                  have af := af_eq (g := fe6 E6 24 0) h76 rfl rfl rfl c5 s10 z1
                  have t5e : E (xe (C 15 0).toNat (fe6 E6 24 0)) 5 = E6 638 (fe6 E6 24 0) := fl.1.2.2.1
                  rcases a5 with ⟨a7, B1, q2', a8, a9⟩ | ⟨a7, -⟩
                  · unfold TSQ at a8
                    rw [t5e, ← vv.1, ← af, ← vv.2.1, ← vv.2.2.1] at a8
                    have iob : (clE E6 x = 2 ∨ clE E6 x = 4) → ioF E (xe (C 15 0).toNat (fe6 E6 24 0)) (E6 598 66) (sq6 E6 x) (lg6 E6 x) = io6 E6 x (fe6 E6 24 0) (clE E6 x) := fun u => io_eq fl rfl z1 u rfl rfl
                    rcases a8 with ⟨a10, a11, a12⟩ | ⟨a10, a11, a12, a13⟩ | ⟨a10, a11, a12, Bx, a13, a14⟩
                    · rcases b5 with ⟨-, b6, b7, b8⟩ | ⟨-, b6, -⟩ | ⟨-, b6, -⟩ | ⟨b6, -⟩
                      · have dd : r = -7 ∧ D = B1 := by
                          rcases a9 with a9 | a9
                          · rw [if_neg (by omega)] at a6
                            exact ⟨by omega, a9.2.2⟩
                          · omega
                        refine rest ?_ (by omega)
                        rw [dd.2, a12, b8]
                        exact wd
                      · exact absurd a10 b6
                      · exact absurd a10 b6
                      · exact absurd n6 b6
                    · rcases b5 with ⟨-, b6, -⟩ | ⟨-, b6, b7, b8, b9⟩ | ⟨-, b6, b7, -⟩ | ⟨b6, -⟩
                      · exact absurd b6 a10
                      · have dd : r = -8 ∧ D = B1 := by
                          rcases a9 with a9 | a9
                          · rw [if_neg (by omega)] at a6
                            exact ⟨by omega, a9.2.2⟩
                          · omega
                        refine rest ?_ (by omega)
                        rw [dd.2, a13, b9]
                        exact wd
                      · exact absurd ((iob a11.1).symm.trans a11.2) b7
                      · exact absurd n6 b6
                    · rcases b5 with ⟨-, b6, -⟩ | ⟨-, b6, b7, -⟩ | ⟨-, b6, b7, b8, B6, b9, b10⟩ | ⟨b6, -⟩
                      · exact absurd b6 a10
                      · exfalso
                        by_cases u : clE E6 x = 2 ∨ clE E6 x = 4
                        · exact a11 ⟨u, (iob u).trans b7⟩
                        · rw [io6_0 (Or.inl (by omega))] at b7
                          exact absurd b7 (by decide)
                      · subst b8
                        have dd : r = fe6 E6 24 0 ∧ D = tiM B1 (xe (C 15 0).toNat (fe6 E6 24 0)) (E6 598 66) (C 0 8) (R 600 x) := by
                          rcases a9 with a9 | a9
                          · omega
                          · rw [a9.2.1, if_pos rfl] at a6
                            exact ⟨a6, a9.2.2⟩
                        have bb : 1 ≤ afE E6 x (fe6 E6 24 0) ∧ afE E6 x (fe6 E6 24 0) ≤ 10 := by
                          rw [af] at a10 ⊢
                          unfold tsB at a10 ⊢
                          by_cases u : clE E6 x < 5 ∧ 1 ≤ E6 638 (fe6 E6 24 0) ∧ E6 638 (fe6 E6 24 0) ≤ 10
                          · rw [if_pos u] at a10 ⊢
                            have := xcv5_r (i := 10 * (E6 638 (fe6 E6 24 0) - 1) + 5 * E6 598 66 + clE E6 x) (by omega) (by omega)
                            omega
                          · rw [if_neg u] at a10
                            exact absurd rfl a10
                        have s0f : clE E6 x = 0 → 9 ≤ E6 638 (fe6 E6 24 0) → E6 598 66 = 0 := fun u v => by
                          rcases z1 with y | y
                          · exact y
                          · exfalso
                            rw [af] at a10
                            apply a10
                            unfold tsB
                            rw [if_pos (by omega), u, y]
                            rcases (show E6 638 (fe6 E6 24 0) = 9 ∨ E6 638 (fe6 E6 24 0) = 10 by omega) with y2 | y2
                            · rw [y2]; exact xcv5_z.1
                            · rw [y2]; exact xcv5_z.2.1
                        have fpx : FP Bx B6 (xe (C 15 0).toNat (fe6 E6 24 0)) (fe6 E6 24 0) ∧ fr7 E Bx (xe (C 15 0).toNat (fe6 E6 24 0)) ∧ O7 E6 B6 (fe6 E6 24 0) ∧ Bx (xe (C 15 0).toNat (fe6 E6 24 0)) 0 = E (xe (C 15 0).toNat (fe6 E6 24 0)) 0 ∧ (∀ (b : Nat) (i : Int), (b < 632 ∨ 637 < b) → B6 b i = E6 b i) ∧ (E6 598 66 = 0 ∨ B6 634 (2 * fe6 E6 24 0) = 1) ∧ (0 ≤ B6 632 (2 * fe6 E6 24 0 + E6 598 66) ∧ B6 632 (2 * fe6 E6 24 0 + E6 598 66) ≤ 1) ∧ (0 ≤ B6 634 (2 * fe6 E6 24 0 + 1) ∧ B6 634 (2 * fe6 E6 24 0 + 1) ≤ 1) := by
                          rcases a13 with ⟨u, a13⟩ | ⟨u, a13⟩
                          · rcases b9 with ⟨v, b9, b11⟩ | ⟨v, b9⟩
                            · have q := b9.1 (2 * fe6 E6 24 0 + E6 598 66) (by omega) (by omega)
                              have q1 := b9.1 (2 * fe6 E6 24 0 + 1) (by omega) (by omega)
                              exact ⟨fp_forget fl a13 b9 b11, fun b k hb => a13.2.2.2 b k (by omega) (by omega) (by omega) (by omega) (by omega) (by omega), O7.g b9 b11, a13.2.2.1 0 (by decide), fun b i hb => b11 b i (by omega) (by omega) (by omega) (by omega) (by omega) (by omega), Or.inl v.2.1, by omega, by omega⟩
                            · exact absurd ⟨u.2, s0f u.1 u.2, u.1⟩ v
                          · rcases b9 with ⟨v, -⟩ | ⟨v, b9⟩
                            · exact absurd ⟨v.2.2, v.1⟩ u
                            · rw [a13, b9]
                              exact ⟨fl.p, fun _ _ _ => rfl, O7.r _ _, rfl, fun _ _ _ => rfl, s634, i01 632 _ (Or.inl rfl), i634⟩
                        obtain ⟨g1, g2, g3, g4, g5, g6, g7, g8⟩ := fpx
                        rw [n6] at b10
                        have tk2 : TKC (K6 B6 (fe6 E6 24 0) 6 (C 0 8) (afE E6 x (fe6 E6 24 0))) (rf R x) (R 600 x) c1 x (inf (rf R x) (R 600 x) c1 (ntf (rf R x) (R 600 x) c1)) := tkc.e (fun b i h0 h1 => by rw [k6_f.2.2 b i (by omega)]; exact g5 b i (by omega)) (by rw [k6_f.2.2 598 6 (by omega)]; exact g5 598 6 (by decide)) (by rw [k6_f.2.2 598 65 (by omega)]; exact g5 598 65 (by decide))
                        have v2 := tk2.v k
                        have d2 := dd.2
                        rw [a14] at d2
                        have ff := fin6 g1 z1 g6 ((g5 629 _ (by decide)).trans (s6.1.2.trans n6)) g7 g8 d2 b10 (by unfold ctE; rw [v2.2.2.1, v2.2.1, vv.2.2.1, vv.2.1]) v2.2.2.2 ((g5 600 x (by decide)).trans t5) bb
                        refine rest (done _ rfl ⟨ff.1, ff.2.1.trans g4, ff.2.2.1.trans (g5 627 _ (by decide)), fun b k hb => (ff.2.2.2.1 b k hb).trans (g2 b k hb), ff.2.2.2.2.t g3⟩) (by omega)
                      · exact absurd n6 b6
                  · exact absurd (nx.trans n6) a7
                · have n1 : E6 598 60 = 17 := hn6.trans e
                  rcases b5 with ⟨b5, -⟩ | ⟨b5, -⟩ | ⟨b5, -⟩ | ⟨b5, b6, b7⟩
                  · omega
                  · omega
                  · omega
                  · rcases a5 with ⟨a7, -⟩ | ⟨a7, a8, a9⟩
                    · omega
                    · rw [a8, if_pos rfl] at a6
                      rw [n1] at b7 nx ok
                      rw [b6] at b7
                      have lo : 0 ≤ E6 638 (fe6 E6 24 0) := by
                        rw [t1 638 _ (by decide) (by decide)]
                        have q := hI 638 (fe6 E6 24 0) (by decide)
                        rw [xri_row rfl rfl] at q
                        exact q.1
                      have u7 : u7E E6 (fe6 E6 24 0) = (if E (xe (C 15 0).toNat (fe6 E6 24 0)) 2 = 17 ∧ E6 598 66 = 1 then 1 else E (xe (C 15 0).toNat (fe6 E6 24 0)) 5) := by
                        unfold u7E
                        rw [n1, nx, fl.1.2.2.1]
                        unfold stOK at ok
                        (repeat' split) <;> omega
                      refine rest (done _ rfl (fin1 fl.p z1 s634 (s6.1.2.trans n1) (Or.inr rfl) i634 a9 u7 b7 t5 ?_)) (by omega)
                      rw [u7, nx, fl.1.2.2.1]
                      unfold stOK at ok ⊢
                      split <;> omega
  · rcases p with ⟨p0, p1, p2⟩ | ⟨p0, -⟩
    · rcases q with ⟨q0, q1, q2⟩ | ⟨q0, -⟩
      · rw [p2, q2]
        exact ⟨h, by omega⟩
      · exact absurd q0.1 hx
    · exact absurd p0.1 hx
end
section
/-! ===== gatherings on both sides ===== -/
theorem gS_p (M : jm) : ∀ (n : Nat) (i : Int), 0 ≤ i → (gS M n i = -1 ∧ ∀ j : Int, i ≤ j → j < i + n → ¬ (M (xe 10 j) 0 ≠ 0 ∧ (M (xe 10 j) 1 = M 11 1 ∧ M (xe 10 j) 2 = M 11 2 ∧ M (xe 10 j) 3 = M 11 3 ∧ M (xe 10 j) 4 = M 11 4 ∧ M (xe 10 j) 5 = M 11 5))) ∨ ((i ≤ gS M n i ∧ gS M n i < i + n) ∧ (M (xe 10 (gS M n i)) 0 ≠ 0 ∧ (M (xe 10 (gS M n i)) 1 = M 11 1 ∧ M (xe 10 (gS M n i)) 2 = M 11 2 ∧ M (xe 10 (gS M n i)) 3 = M 11 3 ∧ M (xe 10 (gS M n i)) 4 = M 11 4 ∧ M (xe 10 (gS M n i)) 5 = M 11 5))) := by
  intro n
  induction n with
  | zero => intro i _; exact Or.inl ⟨rfl, fun j h0 h1 => absurd h1 (by omega)⟩
  | succ n ih =>
    intro i hi
    unfold gS
    by_cases c : (M (xe 10 i) 0 ≠ 0 ∧ (M (xe 10 i) 1 = M 11 1 ∧ M (xe 10 i) 2 = M 11 2 ∧ M (xe 10 i) 3 = M 11 3 ∧ M (xe 10 i) 4 = M 11 4 ∧ M (xe 10 i) 5 = M 11 5))
    · rw [if_pos c]
      exact Or.inr ⟨⟨by omega, by omega⟩, c⟩
    · rw [if_neg c]
      rcases ih (i + 1) (by omega) with ⟨a, b⟩ | ⟨a, b⟩
      · refine Or.inl ⟨a, fun j h0 h1 => ?_⟩
        by_cases e : j = i
        · rw [e]; exact c
        · exact b j (by omega) (by omega)
      · exact Or.inr ⟨⟨by omega, by omega⟩, b⟩
theorem gL_p (M : jm) (k a b c o : Int) : ∀ n : Nat, (gL M k a b c o n = -1 ∧ ∀ j : Int, 0 ≤ j → j < n → ¬ (M 606 j ≠ 0 ∧ M 607 j = k ∧ M 608 j = a ∧ M 609 j = b ∧ M 610 j = c ∧ M 611 j = o)) ∨ ((0 ≤ gL M k a b c o n ∧ gL M k a b c o n < n) ∧ (M 606 (gL M k a b c o n) ≠ 0 ∧ M 607 (gL M k a b c o n) = k ∧ M 608 (gL M k a b c o n) = a ∧ M 609 (gL M k a b c o n) = b ∧ M 610 (gL M k a b c o n) = c ∧ M 611 (gL M k a b c o n) = o)) := by
  intro n
  induction n with
  | zero => exact Or.inl ⟨rfl, fun j h0 h1 => absurd h1 (by omega)⟩
  | succ n ih =>
    unfold gL
    by_cases q : (M 606 (n : Int) ≠ 0 ∧ M 607 (n : Int) = k ∧ M 608 (n : Int) = a ∧ M 609 (n : Int) = b ∧ M 610 (n : Int) = c ∧ M 611 (n : Int) = o)
    · rw [if_pos q]
      exact Or.inr ⟨⟨by omega, by omega⟩, q⟩
    · rw [if_neg q]
      rcases ih with ⟨u, v⟩ | ⟨u, v⟩
      · refine Or.inl ⟨u, fun j h0 h1 => ?_⟩
        by_cases e : j = n
        · rw [e]; exact q
        · exact v j h0 (by omega)
      · exact Or.inr ⟨⟨by omega, by omega⟩, v⟩
/-- the gathering that a piece belongs to -/
theorem ga_s {C R : jm} {k a b c o : Int} (h : RDg C R) (n1 : C 11 1 = k) (n2 : C 11 2 = a) (n3 : C 11 3 = b) (n4 : C 11 4 = c) (n5 : C 11 5 = o) : gS C 8 0 = gL R k a b c o 8 := by
  have e : ∀ j : Int, 0 ≤ j → j < 8 → ((C (xe 10 j) 0 ≠ 0 ∧ (C (xe 10 j) 1 = C 11 1 ∧ C (xe 10 j) 2 = C 11 2 ∧ C (xe 10 j) 3 = C 11 3 ∧ C (xe 10 j) 4 = C 11 4 ∧ C (xe 10 j) 5 = C 11 5)) ↔ (R 606 j ≠ 0 ∧ R 607 j = k ∧ R 608 j = a ∧ R 609 j = b ∧ R 610 j = c ∧ R 611 j = o)) := fun j j0 j1 => by
    have q := h.2 j j0 j1
    rw [q.1, n1, n2, n3, n4, n5]
    by_cases u : R 606 j = 0
    · exact ⟨fun v => absurd u v.1, fun v => absurd u v.1⟩
    · have w := (q.2 u).1
      rw [w.1, w.2.1, w.2.2.1, w.2.2.2.1, w.2.2.2.2.1]
  rcases gS_p C 8 0 (by decide) with ⟨a1, a2⟩ | ⟨a1, a2⟩ <;> rcases gL_p R k a b c o 8 with ⟨b1, b2⟩ | ⟨b1, b2⟩
  · rw [a1, b1]
  · exact absurd ((e _ b1.1 (by omega)).2 b2) (a2 _ b1.1 (by omega))
  · exact absurd ((e _ a1.1 (by omega)).1 a2) (b2 _ a1.1 (by omega))
  · have a3 := (e _ a1.1 (by omega)).1 a2
    refine h.1 _ _ a1.1 (by omega) b1.1 (by omega) a3.1 b2.1 ?_
    rw [a3.2.1, a3.2.2.1, a3.2.2.2.1, a3.2.2.2.2.1, a3.2.2.2.2.2, b2.2.1, b2.2.2.1, b2.2.2.2.1, b2.2.2.2.2.1, b2.2.2.2.2.2]
    exact ⟨rfl, rfl, rfl, rfl, rfl⟩
theorem ga_e {C R : jm} (h : RDg C R) : ∀ (n : Nat) (i : Int), 0 ≤ i → i + n ≤ 8 → gF C n i = gE R n i := by
  intro n
  induction n with
  | zero => intro i _ _; rfl
  | succ n ih =>
    intro i h0 h1
    unfold gF gE
    rw [(h.2 i h0 (by omega)).1, ih (i + 1) (by omega) (by omega)]
theorem gE_r (R : jm) : ∀ (n : Nat) (i : Int), 0 ≤ i → gE R n i = -1 ∨ ((i ≤ gE R n i ∧ gE R n i < i + n) ∧ R 606 (gE R n i) = 0) := by
  intro n
  induction n with
  | zero => intro i _; exact Or.inl rfl
  | succ n ih =>
    intro i hi
    unfold gE
    by_cases c : R 606 i = 0
    · rw [if_pos c]
      exact Or.inr ⟨⟨by omega, by omega⟩, c⟩
    · rw [if_neg c]
      rcases ih (i + 1) (by omega) with a | a
      · exact Or.inl a
      · exact Or.inr ⟨⟨by omega, by omega⟩, a.2⟩
theorem ga_p {C R : jm} (h : RDp C R) : ∀ (n : Nat) (i : Int), 0 ≤ i → i + n ≤ 24 → pF C n i = pG R n i := by
  intro n
  induction n with
  | zero => intro i _ _; rfl
  | succ n ih =>
    intro i h0 h1
    unfold pF pG
    rw [(h i h0 (by omega)).1, ih (i + 1) (by omega) (by omega)]
theorem RDg.n {C D R : jm} (h : RDg C R) (n : NH C D) : RDg D R := by
  refine ⟨h.1, fun g g0 g1 => ?_⟩
  have k := kGa g0 g1
  have x := xgx (g := g) ⟨g0, g1⟩
  have k1 := (kf_15_9 k).2
  have k2 := (kf_15_10 k).2
  have e0 : ∀ i : Int, D (xe 10 g) i = C (xe 10 g) i := fun i => n _ i (by rw [k]; decide) (by omega)
  have e1 : ∀ i : Int, D (xe 10 g + 1) i = C (xe 10 g + 1) i := fun i => n _ i (by rw [k1]; decide) (by omega)
  have e2 : ∀ i : Int, D (xe 10 g + 2) i = C (xe 10 g + 2) i := fun i => n _ i (by rw [k2]; decide) (by omega)
  have q := h.2 g g0 g1
  exact ⟨by rw [e0]; exact q.1, fun u => (q.2 u).e (fun i _ => e0 i) e1 e2⟩
theorem szf_x (w K : Int) : (if szf w ≤ szf K then szf K else szf w) = szf (if K ≤ w then w else K) := by
  unfold szf
  (repeat' split) <;> omega
theorem rbf_n (K : Int) : rbf (-1) K = szf K := by
  unfold rbf szf
  rw [if_neg (by decide)]
theorem rbf_p {w K : Int} (h : w ≠ -1) : rbf w K = w := if_pos h
theorem lpf_p {w : Int} (h : 0 ≤ w ∧ w ≤ 360) : lpf w = w := by
  unfold lpf
  rw [if_neg (by omega), if_pos h.2]
/-- the whole is told, or the row grows -/
theorem ga_w {T Rb Rw : jm} {G : Nat} {g i : Int} {f : Int → Int} {N C h : Int} (hw : Rb 614 g = T G 7) (hs : Rb 613 g = rbf (T G 7) (T G 8)) (hr : T G 7 = -1 ∨ (0 ≤ T G 7 ∧ T G 7 ≤ 360)) (ho : 0 ≤ ofs f N C h) (hc : 1 ≤ N - enf f N C h) (hi : (i = 1 ∧ mrf f N C h ≠ 1 ∧ T G 7 = -1) ∨ (i = 0 ∧ ¬ (mrf f N C h ≠ 1 ∧ T G 7 = -1))) (h3 : mrf f N C h ≠ 1 → T G 7 = -1 → ofs f N C h + (N - enf f N C h) ≤ 360) (W : WH6 Rb Rw g i (ofs f N C h + (N - enf f N C h))) : (Rw 614 g = wh1 f N C h (T G 7) ∧ Rw 613 g = rbf (wh1 f N C h (T G 7)) (cm1 f N C h (T G 8))) ∧ (wh1 f N C h (T G 7) = -1 ∨ (0 ≤ wh1 f N C h (T G 7) ∧ wh1 f N C h (T G 7) ≤ 360)) ∧ lpf (wh1 f N C h (T G 7)) ≤ lpf (T G 7) ∧ (∀ k : Int, 0 ≤ k → k < lpf (wh1 f N C h (T G 7)) → wR Rw g k = wR Rb g k) ∧ (∀ (b : Nat) (j : Int), b ≠ 613 → b ≠ 614 → b ≠ 616 → Rw b j = Rb b j) ∧ (∀ j : Int, j ≠ g → Rw 613 j = Rb 613 j ∧ Rw 614 j = Rb 614 j) ∧ ∀ j : Int, (j < 360 * g ∨ 360 * g + 360 ≤ j) → Rw 616 j = Rb 616 j := by
  rcases hi with ⟨i1, m1, w1⟩ | ⟨i0, n0⟩
  · have l3 := h3 m1 w1
    have e : wh1 f N C h (T G 7) = ofs f N C h + (N - enf f N C h) := if_pos ⟨w1, m1⟩
    rw [e, lpf_p (by omega), rbf_p (by omega)]
    rcases W with ⟨-, a1, a2, a3, a4⟩ | ⟨u, -⟩ | ⟨u, -⟩
    · refine ⟨a1, Or.inr (by omega), ?_, fun k k0 k1 => ?_, fun b j h1 h2 h3 => a4 b j h1 h2 h3, fun j hj => ⟨(a2 j hj).2, (a2 j hj).1⟩, fun j hj => a3 j (by omega)⟩
      · rw [w1]
        unfold lpf
        rw [if_pos rfl]
        exact l3
      · unfold wR
        rw [a4 615 _ (by decide) (by decide) (by decide), a3 _ (by omega)]
    · omega
    · omega
  · have e : wh1 f N C h (T G 7) = T G 7 := if_neg (fun u => n0 ⟨u.2, u.1⟩)
    rw [e]
    rcases W with ⟨u, -⟩ | ⟨-, a1, a2, a3, a4⟩ | ⟨-, a1, a2⟩
    · omega
    · rw [hw] at a1
      rw [hs, a1, rbf_n, szf_x] at a2
      refine ⟨⟨(a4 614 g (by decide)).trans hw, ?_⟩, hr, Int.le_refl _, fun k k0 k1 => ?_, fun b j h1 _ _ => a4 b j h1, fun j hj => ⟨a3 j hj, a4 614 j (by decide)⟩, fun j _ => a4 616 j (by decide)⟩
      · rw [a2, a1, rbf_n]
        rfl
      · unfold wR
        rw [a4 615 _ (by decide), a4 616 _ (by decide)]
    · subst a2
      rw [hw] at a1
      refine ⟨⟨hw, ?_⟩, hr, Int.le_refl _, fun _ _ _ => rfl, fun _ _ _ _ _ => rfl, fun _ _ => ⟨rfl, rfl⟩, fun _ _ => rfl⟩
      rw [hs, rbf_p a1, rbf_p a1]
theorem glay_e {w v f f2 : Int → Int} {s e m k : Int} (h : w k = v k) (hf : f = f2) : glay w f s e m k = glay v f2 s e m k := by
  unfold glay
  rw [h, hf]
theorem gov_e {w v : Int → Int} {s : Int} : ∀ n : Nat, (∀ k : Int, s ≤ k → k < s + n → w k = v k) → gov w s n = gov v s n := by
  intro n
  induction n with
  | zero => intro _; rfl
  | succ n ih =>
    intro h
    unfold gov
    rw [ih (fun k h0 h1 => h k h0 (by omega)), h (s + n) (by omega) (by omega)]
theorem mlf_l {D s L : Int} (hD : 0 ≤ D) : 0 ≤ mlf D s L ∧ (mlf D s L ≠ 0 → s + mlf D s L ≤ L) := by
  unfold mlf
  (repeat' split) <;> omega
theorem rdy_c {w v : Int → Int} : ∀ (n : Nat) (i : Int), (∀ k : Int, i ≤ k → k < i + n → w k = v k) → rdy w n i = rdy v n i := by
  intro n
  induction n with
  | zero => intro i _; rfl
  | succ n ih =>
    intro i h
    unfold rdy
    rw [h i (by omega) (by omega), ih (i + 1) (fun k h0 h1 => h k (by omega) (by omega))]
theorem rdy_a {w : Int → Int} : ∀ (n : Nat) (i : Int), rdy w n i ≠ 0 → ∀ k : Int, i ≤ k → k < i + n → w k ≠ -1 := by
  intro n
  induction n with
  | zero => intro i _ k h0 h1; omega
  | succ n ih =>
    intro i h k h0 h1
    unfold rdy at h
    by_cases c : w i = -1
    · rw [if_pos c] at h
      exact absurd rfl h
    · rw [if_neg c] at h
      by_cases e : k = i
      · rw [e]; exact c
      · exact ih (i + 1) h k (by omega) (by omega)
/-- a piece is taken -/
theorem ga_t {T M Rb Rw Rl R5 : jm} {G : Nat} {g i x h t : Int} {f : Int → Int} {N C : Int} (hg : 0 ≤ g) (L : GL T Rb G g) (h0 : 0 ≤ h ∧ h < C) (ho : 0 ≤ ofs f N C h) (hc : 1 ≤ N - enf f N C h) (hi : (i = 1 ∧ mrf f N C h ≠ 1 ∧ T G 7 = -1) ∨ (i = 0 ∧ ¬ (mrf f N C h ≠ 1 ∧ T G 7 = -1))) (h3 : mrf f N C h ≠ 1 → T G 7 = -1 → ofs f N C h + (N - enf f N C h) ≤ 360) (W : WH6 Rb Rw g i (ofs f N C h + (N - enf f N C h))) (Y : LY6 Rw Rl g x (enf f N C h) (N - enf f N C h) (ofs f N C h)) (K : (ofs f N C h = 0 ∧ Rl 617 g = -1 ∧ KH6 Rl R5 g x h t) ∨ (¬ (ofs f N C h = 0 ∧ Rl 617 g = -1) ∧ R5 = Rl)) (hf : rf Rb x = f) (hb : ∀ i : Int, 0 ≤ f i ∧ f i ≤ 255) (hn : N ≤ 400)
  (kk : Rb 607 g = hX f N h) (k5 : Rb 611 g = vA f N C h (if kA f N C h = 2 then 7 else 0)) (tt : t = ntf f N C ∧ (0 ≤ t ∧ t < C)) (hk : (hX f N h = 2 ∧ t = h) ∨ hX f N h = 6) (hd : ∀ j : Int, 0 ≤ j → j < C → Rb 603 j = hX f N j ∧ Rb 604 j = hY f N j ∧ Rb 605 j = hZ f N j ∧ 0 ≤ hY f N j ∧ hY f N j + hZ f N j ≤ N ∧ 0 ≤ hZ f N j ∧ (hX f N j = 2 → 20 ≤ hZ f N j) ∧ (hX f N j = 6 → 8 ≤ hZ f N j)) (tk : TKI T M G f N C h) : GL M R5 G g ∧ RDl M R5 ∧ (∀ (b : Nat) (j : Int), b ≠ 615 → b ≠ 616 → b ≠ 618 → b ≠ 598 → b ≠ 622 → j ≠ g → R5 b j = Rb b j) ∧ (∀ j : Int, (j < 360 * g ∨ 360 * g + 360 ≤ j) → R5 615 j = Rb 615 j ∧ R5 616 j = Rb 616 j) ∧ (∀ j : Int, (j < 400 * g ∨ 400 * g + 400 ≤ j) → R5 618 j = Rb 618 j) ∧ (∀ (b : Nat) (j : Int), b < 613 → b ≠ 598 → R5 b j = Rb b j) := by
  obtain ⟨⟨l1, l1', l1'', l1a, l1b, l1c⟩, l2, ⟨l3, l3', l3''⟩, l4, l5, l6⟩ := L
  obtain ⟨⟨w1, w2⟩, w3, w4, w5, w6, w7, w8⟩ := ga_w l3.symm l3' l3'' ho hc hi h3 W
  obtain ⟨⟨⟨t1, t2⟩, t3, t4, t5⟩, t6, t7, t8, t9, ta, tb⟩ := tk
  obtain ⟨⟨⟨y1, y2⟩, y3, y4, y5, y6, y7, y8⟩, y9, ya⟩ := Y
  have ef : rf Rw x = f := (rf_e (fun i => w6 601 i (by decide) (by decide) (by decide))).trans hf
  have lm := lpf_m (wh1 f N C h (T G 7))
  have ml := mlf_l (D := N - enf f N C h) (s := ofs f N C h) (L := lpf (wh1 f N C h (T G 7))) (by omega)
  rw [w1] at y1 y4 y5 y6 y8
  have rows : ∀ k : Int, 0 ≤ k → k < lpf (wh1 f N C h (T G 7)) → T (G + 1) k = wR Rw g k := fun k k0 k1 => by rw [w5 k k0 k1]; exact l4 k k0 (by omega)
  have govs : gov (T (G + 1)) (ofs f N C h) (mlf (N - enf f N C h) (ofs f N C h) (lpf (wh1 f N C h (T G 7)))).toNat = gov (wR Rw g) (ofs f N C h) (mlf (N - enf f N C h) (ofs f N C h) (lpf (wh1 f N C h (T G 7)))).toNat := gov_e _ (fun k k0 k1 => rows k (by omega) (by omega))
  -- the reference's cells, from Rb to R5
  have K2 : (∀ (b : Nat) (i : Int), b ≠ 617 → b ≠ 618 → b ≠ 619 → b ≠ 620 → b ≠ 621 → R5 b i = Rl b i) ∧ (∀ (b : Nat) (j : Int), b ≠ 618 → j ≠ g → R5 b j = Rl b j) ∧ (∀ j : Int, (j < 400 * g ∨ 400 * g + 400 ≤ j) → R5 618 j = Rl 618 j) := by
    rcases K with ⟨-, -, ⟨-, -, k3, k4⟩, k5⟩ | ⟨-, k⟩
    · exact ⟨k5, k3, k4⟩
    · rw [k]
      exact ⟨fun _ _ _ _ _ _ _ => rfl, fun _ _ _ _ => rfl, fun _ _ => rfl⟩
  have lo : ∀ (b : Nat) (j : Int), b < 613 → b ≠ 598 → R5 b j = Rb b j := fun b j h1 h2 => (K2.1 b j (by omega) (by omega) (by omega) (by omega) (by omega)).trans ((y9 b j h2 (by omega) (by omega) (by omega)).trans (w6 b j (by omega) (by omega) (by omega)))
  have up : ∀ (b : Nat) (j : Int), 616 < b → b ≠ 622 → Rl b j = Rb b j := fun b j h1 h2 => (y9 b j (by omega) (by omega) (by omega) h2).trans (w6 b j (by omega) (by omega) (by omega))
  have lw : ∀ (b : Nat) (j : Int), b < 613 → b ≠ 598 → Rl b j = Rb b j := fun b j h1 h2 => (y9 b j h2 (by omega) (by omega) (by omega)).trans (w6 b j (by omega) (by omega) (by omega))
  have l7 : Rl 617 g = T G 11 := (up 617 g (by decide) (by decide)).trans l5.symm
  refine ⟨⟨⟨?_, ?_, ?_, ?_, ?_, ?_⟩, ?_, ⟨?_, ?_, ?_⟩, fun k k0 k1 => ?_, ?_, fun u => ?_⟩, fun k k0 k1 => ?_, fun b j h1 h2 h3 h4 h5 hj => ?_, fun j hj => ⟨?_, ?_⟩, fun j hj => ?_, lo⟩
  · rw [t3 1 (by decide) (by decide) (by decide) (by decide) (by decide), lo 607 g (by decide) (by decide)]; exact l1
  · rw [t3 2 (by decide) (by decide) (by decide) (by decide) (by decide), lo 608 g (by decide) (by decide)]; exact l1'
  · rw [t3 3 (by decide) (by decide) (by decide) (by decide) (by decide), lo 609 g (by decide) (by decide)]; exact l1''
  · rw [t3 4 (by decide) (by decide) (by decide) (by decide) (by decide), lo 610 g (by decide) (by decide)]; exact l1a
  · rw [t3 5 (by decide) (by decide) (by decide) (by decide) (by decide), lo 611 g (by decide) (by decide)]; exact l1b
  · rw [t3 6 (by decide) (by decide) (by decide) (by decide) (by decide), lo 612 g (by decide) (by decide)]; exact l1c
  · rw [lo 607 g (by decide) (by decide)]; exact l2
  · rw [t1, K2.1 614 g (by decide) (by decide) (by decide) (by decide) (by decide), y9 614 g (by decide) (by decide) (by decide) (by decide), w1]
  · rw [t1, t2, K2.1 613 g (by decide) (by decide) (by decide) (by decide) (by decide), y9 613 g (by decide) (by decide) (by decide) (by decide), w2]
  · rw [t1]; exact w3
  · rw [t1] at k1
    have e : wR R5 g k = wR Rl g k := wR_e (fun k _ _ => ⟨K2.1 615 _ (by decide) (by decide) (by decide) (by decide) (by decide), K2.1 616 _ (by decide) (by decide) (by decide) (by decide) (by decide)⟩) k0 (by omega)
    rw [e, t6 k k0 (by omega), y1 k k0 (by omega)]
    exact glay_e (rows k k0 k1) ef.symm
  · rcases K with ⟨c1, c2, ⟨⟨q1, -⟩, -⟩, -⟩ | ⟨c1, c2⟩
    · rw [l7] at c2
      rcases t4 with ⟨-, -, t4, -⟩ | ⟨t4, -⟩
      · rw [t4.1, q1, lw 604 h (by decide) (by decide), lw 605 h (by decide) (by decide), enf_i h0, (hd h h0.1 h0.2).2.1, (hd h h0.1 h0.2).2.2.1]
      · exact absurd ⟨c1, c2⟩ t4
    · rw [l7] at c1
      rcases t4 with ⟨u1, u2, -⟩ | ⟨-, t4, -⟩
      · exact absurd ⟨u1, u2⟩ c1
      · rw [t4.1, c2, l7]
  · rcases K with ⟨c1, c2, ⟨⟨q1, q2, q3, q4⟩, q5, -, -⟩, -⟩ | ⟨c1, c2⟩
    · rw [l7] at c2
      have hh := hd h h0.1 h0.2
      have ht := hd t tt.2.1 tt.2.2
      rw [lw 604 h (by decide) (by decide), lw 605 h (by decide) (by decide), hh.2.1, hh.2.2.1] at q1 q5
      rw [lw 604 h (by decide) (by decide), hh.2.1] at q2
      rw [lw 604 t (by decide) (by decide), ht.2.1] at q3
      have el : rf Rl x = f := (rf_e (fun i => lw 601 i (by decide) (by decide))).trans hf
      rw [el] at q5
      rcases t4 with ⟨-, -, ⟨v1, v2, v3⟩, v4⟩ | ⟨t4, -⟩
      · rw [enf_i h0] at v4
        rw [q1, q2, q3, lo 607 g (by decide) (by decide), lo 611 g (by decide) (by decide), kk]
        refine ⟨fun k k0 k1 => by rw [v4 k k0 k1, q5 k k0 k1], ?_, fun u6 => ⟨?_, ?_⟩, fun u2 => ?_⟩
        · rw [v2, ← tt.1]
          unfold pA
          rw [if_pos tt.2]
        · rw [l1, kk] at v3
          have v5 : M G 13 = pA f N C (h - 1) + (if kA f N C (h - 1) = 3 then 4 else 0) := by
            rcases v3 with v | v
            · exact v.2
            · exact absurd u6 v.1
          have hz : h ≠ 0 := fun e => by
            rw [e] at u6
            exact absurd u6 (show ¬ ((0 : Int) = 6) by decide)
          have hp := hd (h - 1) (by omega) (by omega)
          rw [v5, q4, if_neg hz, lw 604 _ (by decide) (by decide), lw 603 _ (by decide) (by decide), hp.1, hp.2.1, kA_i (by omega)]
          unfold pA
          rw [if_pos (by omega)]
        · rw [q5 _ hh.2.2.2.1 (by have := hh.2.2.2.2.2.2.2 u6; omega), k5, kA_i h0, u6, if_neg (by decide), vA_k h0 u6 (by rw [show xcv_2 6 = 4 by decide +kernel]; decide), vof_6_0, nbs_1, Int.add_zero]
          have := hb (hY f N h)
          omega
        · have e : t = h := by
            rcases hk with v | v
            · exact v.2
            · omega
          have z20 := hh.2.2.2.2.2.2.1 u2
          have zz : hZ f N h = 4 * (f (hY f N h) % 16) := by
            unfold hZ
            rw [u2]
            unfold hsZ
            rw [if_pos rfl, hb_i hh.2.2.2.1 (by omega)]
          rw [e, q5 _ hh.2.2.2.1 (by omega), ← zz]
          exact ⟨rfl, by omega⟩
      · exact absurd ⟨c1, c2⟩ t4
    · rw [l7] at c1
      rcases t4 with ⟨u1, u2, -⟩ | ⟨-, ⟨v1, v2, v3⟩, v4⟩
      · exact absurd ⟨u1, u2⟩ c1
      · rw [c2, up 617 g (by decide) (by decide)] at u
        rw [c2, up 617 g (by decide) (by decide), up 621 g (by decide) (by decide), up 620 g (by decide) (by decide), up 619 g (by decide) (by decide), lw 607 g (by decide) (by decide), lw 611 g (by decide) (by decide), v2, v3, up 618 _ (by decide) (by decide), up 618 _ (by decide) (by decide)]
        obtain ⟨g1, g2, g3, g4⟩ := l6 u
        exact ⟨fun k k0 k1 => by rw [v4, up 618 _ (by decide) (by decide)]; exact g1 k k0 k1, g2, g3, g4⟩
  · rw [K2.1 598 34 (by decide) (by decide) (by decide) (by decide) (by decide), y3, if_neg (by decide), K2.1 622 k (by decide) (by decide) (by decide) (by decide) (by decide)]
    rcases (show k = 0 ∨ k = 1 ∨ k = 2 ∨ k = 3 ∨ k = 4 by omega) with rfl | rfl | rfl | rfl | rfl
    · rw [t7, y4, govs]
    · rw [t8, y5, govs]
    · rw [t9, y6]
    · rw [ta, y7, w2]
    · rw [tb, y8]
  · rw [K2.2.1 b j h3 hj, y9 b j h4 h1 h2 h5]
    by_cases e1 : b = 613
    · rw [e1]; exact (w7 j hj).1
    · by_cases e2 : b = 614
      · rw [e2]; exact (w7 j hj).2
      · exact w6 b j e1 e2 h2
  · rw [K2.1 615 j (by decide) (by decide) (by decide) (by decide) (by decide), (y2 j hj).2, w6 615 j (by decide) (by decide) (by decide)]
  · rw [K2.1 616 j (by decide) (by decide) (by decide) (by decide) (by decide), (y2 j hj).1, w8 j hj]
  · rw [K2.2.2 j hj, up 618 j (by decide) (by decide)]
/-- the packet is put together -/
theorem ga_n {M R5 : jm} {G : Nat} {g : Int} (L : GL M R5 G g) : NRD M G ↔ NR6 R5 g := by
  obtain ⟨-, -, ⟨l3, -, l3'⟩, l4, l5, -⟩ := L
  unfold NRD NR6
  rw [← l3, ← l5]
  rcases l3' with e | e
  · exact ⟨fun _ => Or.inl e, fun _ => Or.inl e⟩
  · rw [lpf_p e]
    rw [lpf_p e] at l4
    rw [rdy_c (v := wR R5 g) (M G 7).toNat 0 (fun k k0 k1 => l4 k k0 (by omega))]
theorem ga_h {M R5 : jm} {G : Nat} {g : Int} (L : GL M R5 G g) : hlf (M G 1) (M G 11) = hl2 (R5 607 g) (R5 617 g) := by
  rw [L.1.1, L.2.2.2.2.1]
  unfold hlf hl2
  rcases L.2.1 with e | e <;> rw [e]
  · rfl
  · rfl
theorem ga_m {M R5 : jm} {G : Nat} {g p : Int} {F : Int → Int} (L : GL M R5 G g) (n : ¬ NR6 R5 g) (hF : F = rf R5 p) (h0 : R5 617 g ≠ -1 → 0 ≤ R5 621 g) : mkA M G F = mkR R5 g p := by
  have hh := ga_h L
  obtain ⟨⟨l1, -, -, -, l1b, -⟩, l2, ⟨l3, -, l3'⟩, l4, l5, l6⟩ := L
  unfold NR6 at n
  have n1 : R5 614 g ≠ -1 := fun e => n (Or.inl e)
  have n2 : R5 617 g ≠ -1 := fun e => n (Or.inr (Or.inl e))
  have n3 : rdy (wR R5 g) (R5 614 g).toNat 0 ≠ 0 := fun e => n (Or.inr (Or.inr e))
  have w := l3'.resolve_left (by rw [l3]; exact n1)
  rw [lpf_p w, l3] at l4
  rw [l3] at w
  obtain ⟨g1, g2, g3, g4⟩ := l6 n2
  have m0 : mk0 (M (G + 2)) (M (G + 1)) F (hl2 (R5 607 g) (R5 617 g)) (R5 614 g) = mkG R5 g p := by
    unfold mkG
    rw [hF]
    have hle : hl2 (R5 607 g) (R5 617 g) ≤ R5 617 g := by
      unfold hl2
      split <;> omega
    funext k
    unfold mk0
    by_cases c1 : 0 ≤ k ∧ k < hl2 (R5 607 g) (R5 617 g)
    · rw [if_pos c1, if_pos c1]
      exact g1 k c1.1 (by omega)
    · rw [if_neg c1, if_neg c1]
      by_cases c2 : hl2 (R5 607 g) (R5 617 g) ≤ k ∧ k < hl2 (R5 607 g) (R5 617 g) + R5 614 g
      · rw [if_pos c2, if_pos c2, l4 _ (by omega) (by omega)]
        have a := rdy_a _ _ n3 (k - hl2 (R5 607 g) (R5 617 g)) (by omega) (by omega)
        unfold wR at a ⊢
        by_cases c3 : R5 616 (360 * g + (k - hl2 (R5 607 g) (R5 617 g))) ≠ 0
        · rw [if_pos c3]; rfl
        · rw [if_neg c3] at a
          exact absurd rfl a
      · rw [if_neg c2, if_neg c2]
  unfold mkA
  rw [hh, l3, m0, l1, g2, l1b]
  unfold mkF mkR
  rcases l2 with e | e
  · rw [if_pos e, if_pos e]
    obtain ⟨z1, z2⟩ := g4 e
    have hl : hl2 (R5 607 g) (R5 617 g) = R5 617 g := by rw [e]; rfl
    have at0 : mk2 (mkG R5 g p) (R5 621 g) (hl2 (R5 607 g) (R5 617 g) + R5 614 g) (R5 621 g) = R5 618 (400 * g + R5 621 g) := by
      unfold mk2
      rw [ptn_o (by omega), ptn_o (by omega)]
      unfold mkG mk0
      have := h0 n2
      rw [if_pos (by rw [hl]; omega)]
      rfl
    rw [at0, show hl2 (R5 607 g) (R5 617 g) - R5 621 g = 4 * (R5 618 (400 * g + R5 621 g) % 16) by rw [hl]; omega]
  · obtain ⟨z1, z2⟩ := g3 e
    rw [if_neg (by omega), if_neg (by omega), z1, z2]
end
section
/-! ===== gather: both sides answer alike ===== -/
theorem RDp.n {C D R : jm} (h : RDp C R) (n : NH C D) : RDp D R := fun p p0 p1 => by
  have k := kP p0 p1
  have x := xpk (g := p) ⟨p0, p1⟩
  refine ⟨?_, fun i i0 i1 => ?_⟩
  · rw [n _ 1 (by rw [k.1]; decide) (by omega)]; exact (h p p0 p1).1
  · rw [n _ i (by rw [k.2]; decide) (by omega)]; exact (h p p0 p1).2 i i0 i1
theorem RDl.n {C D R : jm} (h : RDl C R) (n : NH C D) : RDl D R := fun i i0 i1 => by
  rw [n 14 i (by decide) (by decide)]
  exact h i i0 i1
/-- a gathering is found or begun -/
theorem ga_b {M2 M3 R1 Rb : jm} {f : Int → Int} {N C y g g2 Z : Int} (h : RDg M2 R1) (gb : GBG M2 M3 g Z) (g6' : GB6 R1 Rb f N C y g2) (nm : NM5 M2 f N C y) (hk : kA f N C y = hX f N y) (k26 : hX f N y = 2 ∨ hX f N y = 6) (hZ : Z = R1 598 2) : (g = g2 ∧ 0 ≤ g ∧ g < 8) ∧ GL M3 Rb (xe 10 g) g ∧ (M3 (xe 10 g) 0 = Rb 606 g ∧ Rb 606 g ≠ 0) ∧ (Rb 607 g = hX f N y ∧ Rb 611 g = vA f N C y (if kA f N C y = 2 then 7 else 0)) ∧ (fst6 R1 f N C y = 1 ↔ M3 (xe 10 g) 7 = -1) ∧ UN Rb ∧ (∀ (b : Nat) (k : Int), b ≠ xe 10 g → b ≠ xe 10 g + 1 → M3 b k = M2 b k) ∧ (∀ (b : Nat) (j : Int), b ≠ 616 → j ≠ g → Rb b j = R1 b j) ∧ (∀ j : Int, (j < 360 * g ∨ 360 * g + 360 ≤ j) → Rb 616 j = R1 616 j) ∧ (∀ (b : Nat) (j : Int), b < 606 ∨ 617 < b ∨ b = 615 → Rb b j = R1 b j) := by
  obtain ⟨n1, n2, n3, n4, n5⟩ := nm
  rw [hk] at n1
  have gs : gS M2 8 0 = g6 R1 f N C y := ga_s h n1 n2 n3 n4 n5
  have sp := gL_p R1 (hX f N y) (adf f N C (ntf f N C) 0) (adf f N C (ntf f N C) 1) (vA f N C y 3) (vA f N C y (if kA f N C y = 2 then 7 else 0)) 8
  have ge := ga_e h 8 0 (by decide) (by decide)
  unfold GBG at gb
  rw [gs, ge] at gb
  rcases gb with ⟨a1, a2, a3⟩ | ⟨a1, a2, a3, a4⟩ <;> rcases g6' with ⟨b1, b2, b3⟩ | ⟨b1, b2, b3, b4⟩
  · subst a3
    subst b3
    have s := sp.resolve_left (fun u => a1 u.1)
    rw [show gL Rb (hX f N y) (adf f N C (ntf f N C) 0) (adf f N C (ntf f N C) 1) (vA f N C y 3) (vA f N C y (if kA f N C y = 2 then 7 else 0)) 8 = g from a2.symm] at s
    have q := h.2 g s.1.1 (by omega)
    refine ⟨⟨a2.trans b2.symm, s.1.1, by omega⟩, q.2 s.2.1, ⟨q.1, s.2.1⟩, ⟨s.2.2.1, s.2.2.2.2.2.2⟩, ?_, h.1, fun _ _ _ _ => rfl, fun _ _ _ _ => rfl, fun _ _ => rfl, fun _ _ _ => rfl⟩
    have w := (q.2 s.2.1).2.2.1.1
    unfold fst6
    rw [← a2, w]
    by_cases c : Rb 614 g = -1
    · rw [if_pos (Or.inr c)]
      exact ⟨fun _ => c, fun _ => rfl⟩
    · rw [if_neg (by omega)]
      exact ⟨fun u => absurd u (by decide), fun u => absurd u c⟩
  · exact absurd b1 a1
  · exact absurd a1 b1
  · have r := (gE_r R1 8 0 (by decide)).resolve_left (by rw [← a2]; exact a3)
    rw [← a2] at r
    have eg : g = g2 := a2.trans b2.symm
    rw [← eg] at b4
    obtain ⟨⟨c0, c1, c2, c3, c4, c5, c6, c7, c8, c9⟩, c10, c11⟩ := a4
    obtain ⟨⟨d0, d1, d2, d3, d4, d5, d6, d7, d8⟩, d9, d10, d11, d12, d13⟩ := b4
    have no := (sp.resolve_right (fun u => by
      have : g6 R1 f N C y = gL R1 (hX f N y) (adf f N C (ntf f N C) 0) (adf f N C (ntf f N C) 1) (vA f N C y 3) (vA f N C y (if kA f N C y = 2 then 7 else 0)) 8 := rfl
      omega)).2
    refine ⟨⟨eg, r.1.1, by omega⟩, ⟨⟨by rw [c1, d1, n1], by rw [c2, d5, n2], by rw [c3, d6, n3], by rw [c4, d7, n4], by rw [c5, d8, n5], by rw [c6, d9, hZ]⟩, by rw [d1]; exact k26, ⟨by rw [c7, d2], by rw [c7, c8, d4]; rfl, Or.inl c7⟩, fun k k0 k1 => ?_, by rw [c9, d3], fun u => absurd d3 u⟩, ⟨by rw [c0, d0], by rw [d0]; decide⟩, ⟨d1, d8⟩, ?_, ?_, c11, d10, d11, d13⟩
    · rw [c7] at k1
      have l : lpf (-1) = 360 := rfl
      rw [c10 k k0 (by omega)]
      unfold wR
      rw [if_neg (by rw [d12 k k0 (by omega)]; decide)]
    · unfold fst6
      rw [if_pos (Or.inl b1)]
      exact ⟨fun _ => c7, fun _ => rfl⟩
    · intro i j i0 i1 j0 j1 u v w
      by_cases e1 : i = g
      · by_cases e2 : j = g
        · omega
        · exfalso
          rw [e1] at w
          rw [d10 607 j (by decide) e2, d10 608 j (by decide) e2, d10 609 j (by decide) e2, d10 610 j (by decide) e2, d10 611 j (by decide) e2, d1, d5, d6, d7, d8] at w
          rw [d10 606 j (by decide) e2] at v
          exact no j j0 j1 ⟨v, w.1.symm, w.2.1.symm, w.2.2.1.symm, w.2.2.2.1.symm, w.2.2.2.2.symm⟩
      · by_cases e2 : j = g
        · exfalso
          rw [e2] at w
          rw [d10 607 i (by decide) e1, d10 608 i (by decide) e1, d10 609 i (by decide) e1, d10 610 i (by decide) e1, d10 611 i (by decide) e1, d1, d5, d6, d7, d8] at w
          rw [d10 606 i (by decide) e1] at u
          exact no i i0 i1 ⟨u, w⟩
        · rw [d10 606 i (by decide) e1] at u
          rw [d10 606 j (by decide) e2] at v
          rw [d10 607 i (by decide) e1, d10 608 i (by decide) e1, d10 609 i (by decide) e1, d10 610 i (by decide) e1, d10 611 i (by decide) e1, d10 607 j (by decide) e2, d10 608 j (by decide) e2, d10 609 j (by decide) e2, d10 610 j (by decide) e2, d10 611 j (by decide) e2] at w
          exact h.1 i j i0 i1 j0 j1 u v w
/-- the packet is made, or not yet -/
theorem ga_z {M D R5 S : jm} {g r r2 : Int} {F : Int → Int → Int} (hg : 0 ≤ g ∧ g < 8) (L : GL M R5 (xe 10 g) g) (l0 : M (xe 10 g) 0 = R5 606 g) (hp : RDp M R5) (hF : ∀ p : Int, F p = rf R5 p) (h0 : R5 617 g ≠ -1 → 0 ≤ R5 621 g) (p : (NRD M (xe 10 g) ∧ r = -1 ∧ D = M) ∨ (¬ NRD M (xe 10 g) ∧ PTO M D (xe 10 g) F r)) (q : FIN R5 S g r2) : r = r2 ∧ RDp D S ∧ GR1 D S (xe 10 g) g ∧ (∀ (b : Nat) (k : Int), (b < 526 ∨ 573 < b) → b ≠ xe 10 g → D b k = M b k) ∧ (∀ j : Int, j ≠ g → S 606 j = R5 606 j) ∧ (S 606 g = 0 ∨ S 606 g = R5 606 g) := by
  have nn := ga_n L
  have hh := ga_h L
  have pp := ga_p hp 24 0 (by decide) (by decide)
  have x := xgx hg
  have w3 : M (xe 10 g) 7 = R5 614 g := L.2.2.1.1
  rcases p with ⟨p1, p2, p3⟩ | ⟨p1, p2⟩ <;> rcases q with ⟨q1, q2, q3⟩ | ⟨q1, q2, q3, q4⟩ | ⟨q1, q2, q3, q4, q5, q6, q7⟩
  · rw [p3, q3]
    exact ⟨by omega, hp, ⟨l0, fun _ => L⟩, fun _ _ _ _ => rfl, fun _ _ => rfl, Or.inr rfl⟩
  · exact absurd (nn.1 p1) q1
  · exact absurd (nn.1 p1) q1
  · exact absurd (nn.2 q1) p1
  · unfold PTO at p2
    rw [pp, hh, w3] at p2
    rcases p2 with ⟨c1, c2, c3⟩ | ⟨c1, c2⟩
    · rw [c3, q4]
      exact ⟨by omega, hp, ⟨l0, fun _ => L⟩, fun _ _ _ _ => rfl, fun _ _ => rfl, Or.inr rfl⟩
    · omega
  · unfold PTO at p2
    rw [pp, hh, w3] at p2
    rcases p2 with ⟨c1, c2, c3⟩ | ⟨c1, c2, M1, ⟨m1, m2, m3, m4⟩, c3⟩
    · omega
    · have rp := (pF_r M 24 0 (by decide)).resolve_left (by rw [pp]; exact c1.1)
      rw [pp, ← q3] at rp
      rw [← q3] at m1 m2 m3 m4 c2
      have xp := xpk (g := r2) ⟨by omega, by omega⟩
      have dM : ∀ (b : Nat) (k : Int), b ≠ xe 10 g → D b k = M1 b k := fun b k hb => by rw [c3, ju_c _ _ hb]
      rw [ga_m L q1 (hF r2) h0] at m1
      refine ⟨c2, ?_, ⟨?_, fun u => absurd q4.2.1 u⟩, fun b k h1 h2 => (dM b k h2).trans (m4 b k (by omega) (by omega)), q7, Or.inl q4.2.1⟩
      · refine rdp_bytes hp (x := r2) (g := mkR R5 g r2) (g2 := mkR R5 g r2) (by omega) (fun b b0 b1 => ?_) (fun i i0 i1 => ?_) (fun i i0 i1 => ?_) (fun _ _ _ => rfl) (fun b b0 b1 e i => ?_) q5
        · have xb := xpk (g := b) ⟨b0, b1⟩
          rw [dM _ 1 (by omega)]
          by_cases e : b = r2
          · rw [e, m2, q4.1]
          · rw [m4 _ 1 (by omega) (by omega), q6 b e]
            exact (hp b b0 b1).1
        · rw [dM _ i (by omega)]
          exact (m1 i i0 i1).1
        · exact congrFun q4.2.2 i
        · have xb := xpk (g := b) ⟨b0, b1⟩
          rw [dM _ i (by omega), m4 _ i (by omega) (by omega)]
      · rw [c3, ju_same, q4.2.1]
theorem op_gather {C D R S : jm} {r r2 : Int} (h : RDA C R) (hG : RG1 R) (hI : RI R) (hI2 : RI S) {x : Int} (hT : C 0 8 = R 598 2) (f : FR W_c_PacketWall_gather_x C D) (p : (((x < 0 ∨ 23 < x ∨ C (xe 2 x) 1 = -1) ∧ r = -2 ∧ NH C D) ∨ (((0 ≤ x ∧ x ≤ 23) ∧ C (xe 2 x) 1 ≠ -1) ∧ ∃ c : Int, HE (rf R x) (C (xe 2 x) 1) c ∧ GAQ C D (rf R x) (C (xe 2 x) 1) c (C 0 8) (rf R) r))) (q : GAR R S x r2) (hf : ∀ (a : Nat) (i : Int), a ≠ 598 → a ≠ 600 → a ≠ 601 → a ≠ 602 → a ≠ 603 → a ≠ 604 → a ≠ 605 → a ≠ 606 → a ≠ 607 → a ≠ 608 → a ≠ 609 → a ≠ 610 → a ≠ 611 → a ≠ 612 → a ≠ 613 → a ≠ 614 → a ≠ 615 → a ≠ 616 → a ≠ 617 → a ≠ 618 → a ≠ 619 → a ≠ 620 → a ≠ 621 → a ≠ 622 → S a i = R a i) (hk : ∀ (i : Int), i ≠ 6 → i ≠ 10 → i ≠ 11 → i ≠ 12 → i ≠ 34 → S 598 i = R 598 i) : RDA D S ∧ r = r2 := by
  have rest : RDp D S ∧ RDl D S ∧ RDg D S → RDA D S := fun a => ⟨((h.1.f f rfl).r (fun i => hf 599 i (by decide) (by decide) (by decide) (by decide) (by decide) (by decide) (by decide) (by decide) (by decide) (by decide) (by decide) (by decide) (by decide) (by decide) (by decide) (by decide) (by decide) (by decide) (by decide) (by decide) (by decide) (by decide) (by decide) (by decide)) (hk 1 (by decide) (by decide) (by decide) (by decide) (by decide))), a.1, ((h.2.2.1.f f rfl).r (fun i _ _ => (hk i (by omega) (by omega) (by omega) (by omega) (by omega)))), a.2.1, ((h.2.2.2.2.1.f f rfl).r (fun a i _ _ => hf a i (by omega) (by omega) (by omega) (by omega) (by omega) (by omega) (by omega) (by omega) (by omega) (by omega) (by omega) (by omega) (by omega) (by omega) (by omega) (by omega) (by omega) (by omega) (by omega) (by omega) (by omega) (by omega) (by omega) (by omega))), ((h.2.2.2.2.2.1.f f rfl).r (fun a i _ _ => hf a i (by omega) (by omega) (by omega) (by omega) (by omega) (by omega) (by omega) (by omega) (by omega) (by omega) (by omega) (by omega) (by omega) (by omega) (by omega) (by omega) (by omega) (by omega) (by omega) (by omega) (by omega) (by omega) (by omega) (by omega))), a.2.2⟩
  have early : NH C D → LKO R S → RDp D S ∧ RDl D S ∧ RDg D S := fun n k => ⟨(h.2.1.n n).r (fun a i _ _ => k.1 a i (by omega) (by omega) (by omega) (by omega)), (h.2.2.2.1.n n).r (fun i => k.1 622 i (by decide) (by decide) (by decide) (by decide)) (k.2 34 (by decide) (by decide) (by decide) (by decide)), (h.2.2.2.2.2.2.n n).r hG hI (fun a i _ _ => k.1 a i (by omega) (by omega) (by omega) (by omega))⟩
  have lr : LKO R R := ⟨fun _ _ _ _ _ _ => rfl, fun _ _ _ _ _ => rfl⟩
  have hb := rf_r hI x
  by_cases hx : 0 ≤ x ∧ x ≤ 23
  · have hN := (h.2.1 x (by omega) (by omega)).1
    have bN : (-1 : Int) ≤ R 600 x ∧ R 600 x ≤ 400 := by have q := hI 600 x (by decide); rw [xri_row rfl rfl] at q; exact q
    rw [hN] at p
    rcases p with ⟨p0, p1, p2⟩ | ⟨p0, c, p1, p2⟩
    · rcases q with ⟨q0, q1, q2⟩ | ⟨q0, -⟩ | ⟨h', t, k, g, o, cc, e, M3, M4, M5, ⟨Rb, i, ⟨R1, px, -⟩, -⟩, -⟩
      · rw [q2] at early ⊢
        rw [q2] at rest
        exact ⟨rest (early p2 lr), by omega⟩
      · omega
      · have := px.2.2.2.2.2.2.2.1
        omega
    · rcases q with ⟨q0, q1, q2⟩ | ⟨-, R1, q1, q2, q3⟩ | ⟨h', t, k, g2, o, cc, e, M3, M4, M5, ⟨Rb, i, ⟨R1, px, ⟨e1, e2, e3⟩, e4, e5, e6⟩, e7⟩, e8, e9, e10, e11⟩
      · omega
      · have ec := HE.u p1 q2
        rw [← ec] at q3
        have rg : ∀ M2 : jm, NH C M2 → RDg M2 R1 := fun M2 n => (h.2.2.2.2.2.2.n n).r hG hI (fun a i _ _ => q1.1 a i (by omega) (by omega) (by omega) (by omega))
        rcases p2 with ⟨a1, a2, a3⟩ | ⟨a1, a2, M2, a3, a4, a5⟩ <;> rcases q3 with ⟨b1, b2, b3⟩ | ⟨b1, b2⟩
        · rw [← b3] at q1
          exact ⟨rest (early a3 q1), by omega⟩
        · omega
        · omega
        · have pr := (pcf_r (f := rf R x) (N := R 600 x) p1.1.1).resolve_left a2
          have gs : gS M2 8 0 = g6 R1 (rf R x) (R 600 x) c (pcf (rf R x) (R 600 x) c) := ga_s (rg M2 a3) (a4.1.trans (kA_i pr.1)) a4.2.1 a4.2.2.1 a4.2.2.2.1 a4.2.2.2.2
          have ge := ga_e (rg M2 a3) 8 0 (by decide) (by decide)
          have fs : fstv M2 = fst6 R1 (rf R x) (R 600 x) c (pcf (rf R x) (R 600 x) c) := by
            unfold fstv fst6
            rw [gs]
            by_cases u : g6 R1 (rf R x) (R 600 x) c (pcf (rf R x) (R 600 x) c) = -1
            · rw [if_pos (Or.inl u), if_pos (Or.inl u)]
            · have s := (gL_p R1 (hX (rf R x) (R 600 x) (pcf (rf R x) (R 600 x) c)) (adf (rf R x) (R 600 x) c (ntf (rf R x) (R 600 x) c) 0) (adf (rf R x) (R 600 x) c (ntf (rf R x) (R 600 x) c) 1) (vA (rf R x) (R 600 x) c (pcf (rf R x) (R 600 x) c) 3) (vA (rf R x) (R 600 x) c (pcf (rf R x) (R 600 x) c) (if kA (rf R x) (R 600 x) c (pcf (rf R x) (R 600 x) c) = 2 then 7 else 0)) 8).resolve_left (fun v => u v.1)
              have w := ((rg M2 a3).2 (g6 R1 (rf R x) (R 600 x) c (pcf (rf R x) (R 600 x) c)) s.1.1 (by exact s.1.2)).2 s.2.1
              rw [w.2.2.1.1]
          rw [← fs, ← gs, ← ge] at b2
          have dd : r = r2 ∧ D = M2 ∧ S = R1 := by
            rcases a5 with ⟨c1, c2, c3⟩ | ⟨c1, c2, c3, c4, c5⟩ | ⟨c1, g, M3, M4, c2, -⟩ <;> rcases b2 with ⟨d1, d2, d3⟩ | ⟨d1, d2, d3, d4⟩
            · exact ⟨by omega, c3, d3⟩
            · exact absurd c1 d1
            · exact absurd d1 c1
            · exact ⟨by omega, c5, d4⟩
            · exact absurd d1 c1
            · rcases c2 with c2 | c2
              · exact absurd d2.1 c2.1
              · exact absurd (c2.2.1.trans d2.2) c2.2.2.1
          rw [← dd.2.2] at q1
          rw [← dd.2.1] at a3
          exact ⟨rest (early a3 q1), dd.1⟩
      · have q2 := px.2.1
        have ec := HE.u p1 q2.1
        have lk := px.2.2.2.2.2.2.2.2
        have hc := px.c
        have hk := px.2.2.2.2.1
        have hh := px.2.2.1
        have ht := px.2.2.2.1
        have ht1 := px.1
        rw [← ec] at e1 e2 e3 e4 e5 e6 hc q2 hh ht ht1
        rcases p2 with ⟨a1, -⟩ | ⟨a1, a2, M2, a3, a4, a5⟩
        · have h1 := q2.2
          have h2 := hh.1
          have h3 := hh.2
          omega
        · rw [← hh.1] at a4
          have rg : RDg M2 R1 := (h.2.2.2.2.2.2.n a3).r hG hI (fun a i _ _ => lk.1 a i (by omega) (by omega) (by omega) (by omega))
          have k26 : (hX (rf R x) (R 600 x) h' = 2 ∧ t = h') ∨ hX (rf R x) (R 600 x) h' = 6 := by
            rcases hc.2 with u | u
            · exact Or.inl ⟨by rw [← hk]; exact u.1, u.2⟩
            · exact Or.inr (by rw [← hk]; exact u.1)
          have kA' : kA (rf R x) (R 600 x) c h' = hX (rf R x) (R 600 x) h' := kA_i hc.1
          have gs : gS M2 8 0 = g6 R1 (rf R x) (R 600 x) c h' := ga_s rg (a4.1.trans kA') a4.2.1 a4.2.2.1 a4.2.2.2.1 a4.2.2.2.2
          have ge := ga_e rg 8 0 (by decide) (by decide)
          have fs : fstv M2 = fst6 R1 (rf R x) (R 600 x) c h' := by
            unfold fstv fst6
            rw [gs]
            by_cases u : g6 R1 (rf R x) (R 600 x) c h' = -1
            · rw [if_pos (Or.inl u), if_pos (Or.inl u)]
            · have s := (gL_p R1 (hX (rf R x) (R 600 x) h') (adf (rf R x) (R 600 x) c (ntf (rf R x) (R 600 x) c) 0) (adf (rf R x) (R 600 x) c (ntf (rf R x) (R 600 x) c) 1) (vA (rf R x) (R 600 x) c h' 3) (vA (rf R x) (R 600 x) c h' (if kA (rf R x) (R 600 x) c h' = 2 then 7 else 0)) 8).resolve_left (fun v => u v.1)
              have w := (rg.2 (g6 R1 (rf R x) (R 600 x) c h') s.1.1 (by exact s.1.2)).2 s.2.1
              rw [w.2.2.1.1]
          unfold GAK at a5
          rw [← hh.1, fs] at a5
          rcases a5 with ⟨c1, -⟩ | ⟨c1, c2, c3, -⟩ | ⟨c1, g, N3, N4, c2, c3, c4⟩
          · exact absurd c1 e4
          · rcases e6 with d | d
            · exact absurd (gs.symm.trans c2) d.1
            · exact absurd (d.2.1.trans (ge.symm.trans c3)) d.2.2.1
          · obtain ⟨⟨g0, g1, g2'⟩, gl, gl0, ⟨gk, gn⟩, gf, gu, gm, gr, gr6, gr0⟩ := ga_b rg c2 e6 a4 kA' (k26.elim (fun u => Or.inl u.1) Or.inr) (hT.trans (lk.2 2 (by decide) (by decide) (by decide) (by decide)).symm)
            rw [← g0] at e7 e8 e9 e10
            have hoo := ofs_r hc.1 (k26.elim (fun u => Or.inl u.1) Or.inr)
            have ho : 0 ≤ ofs (rf R x) (R 600 x) c h' := by unfold ofs; omega
            have f61 : rf Rb x = rf R x := rf_e (fun i => (gr0 601 i (by decide)).trans (lk.1 601 i (by decide) (by decide) (by decide) (by decide)))
            have hd : ∀ j : Int, 0 ≤ j → j < c → Rb 603 j = hX (rf R x) (R 600 x) j ∧ Rb 604 j = hY (rf R x) (R 600 x) j ∧ Rb 605 j = hZ (rf R x) (R 600 x) j ∧ 0 ≤ hY (rf R x) (R 600 x) j ∧ hY (rf R x) (R 600 x) j + hZ (rf R x) (R 600 x) j ≤ R 600 x ∧ 0 ≤ hZ (rf R x) (R 600 x) j ∧ (hX (rf R x) (R 600 x) j = 2 → 20 ≤ hZ (rf R x) (R 600 x) j) ∧ (hX (rf R x) (R 600 x) j = 6 → 8 ≤ hZ (rf R x) (R 600 x) j) := fun j j0 j1 => by
              have a := HT.f ht1 (x := j) ⟨j0, j1⟩
              have y0 := hst_y (f := rf R x) (N := R 600 x) (fun i _ _ => hb i) bN.2 j.toNat (fun i h0 h1 => p1.2.1 i h0 (by omega))
              rw [Int.toNat_of_nonneg j0] at y0
              have z8 := (hsZ_r (fun i _ _ => hb i) bN.2 (hsF_z (p1.2.1 j j0 j1).2).2.1).2
              refine ⟨(gr0 603 j (by decide)).trans a.1, (gr0 604 j (by decide)).trans a.2.1, (gr0 605 j (by decide)).trans a.2.2.1, y0, a.2.2.2.2.1, a.2.2.2.2.2.1, fun u => ?_, fun u => ?_⟩
              · have := a.2.2.2.2.2.2
                omega
              · have z9 : hZ (rf R x) (R 600 x) j = 8 := z8.resolve_left (fun v => v u)
                omega
            have tt : t = ntf (rf R x) (R 600 x) c ∧ (0 ≤ t ∧ t < c) := ⟨ht, by
              rcases hc.2 with u | u
              · rw [u.2]; exact hc.1
              · exact u.2.2⟩
            rw [e1, e2, e3] at e8
            rw [e1, e2] at e7
            rw [e1] at e9
            have w614 : N3 (xe 10 g) 7 = Rb 614 g := gl.2.2.1.1
            have hi : (i = 1 ∧ mrf (rf R x) (R 600 x) c h' ≠ 1 ∧ N3 (xe 10 g) 7 = -1) ∨ (i = 0 ∧ ¬ (mrf (rf R x) (R 600 x) c h' ≠ 1 ∧ N3 (xe 10 g) 7 = -1)) := by
              rw [gf] at e5
              exact e5
            have rq := e4
            unfold rfq at rq
            obtain ⟨tl, tdl, tr, tr6, tr8, tlo⟩ := ga_t g1 gl hc.1 ho (rfq_d e4) hi (fun u v => by have := gf.2 v; omega) e7 e8 e9 f61 hb bN.2 gk gn tt k26 hd c3
            have xg := xgx (g := g) ⟨g1, g2'⟩
            have cl : ∀ (b : Nat) (k : Int), (kd b < 18 ∨ 21 < kd b) → b ≠ 11 → b ≠ 14 → b ≠ xe 10 g → b ≠ xe 10 g + 1 → b ≠ xe 10 g + 2 → N4 b k = C b k := fun b k u1 u2 u3 u4 u5 u6 => (c3.1.2.2.2 b k u4 u5 u6 u3).trans ((gm b k u4 u5).trans (a3 b k u1 u2))
            have rl : ∀ (b : Nat) (j : Int), b < 606 → b ≠ 598 → b ≠ 603 → b ≠ 604 → b ≠ 605 → M5 b j = R b j := fun b j u1 u2 u3 u4 u5 => (tlo b j (by omega) u2).trans ((gr0 b j (by omega)).trans (lk.1 b j u2 u3 u4 u5))
            have hp5 : RDp N4 M5 := fun b b0 b1 => by
              have k := kP b0 b1
              have xb := xpk (g := b) ⟨b0, b1⟩
              refine ⟨?_, fun j j0 j1 => ?_⟩
              · rw [cl _ 1 (by rw [k.1]; decide) (by omega) (by omega) (by omega) (by omega) (by omega), rl 600 b (by decide) (by decide) (by decide) (by decide) (by decide)]
                exact (h.2.1 b b0 b1).1
              · rw [cl _ j (by rw [k.2]; decide) (by omega) (by omega) (by omega) (by omega) (by omega), rl 601 _ (by decide) (by decide) (by decide) (by decide) (by decide)]
                exact (h.2.1 b b0 b1).2 j j0 j1
            have l0 : N4 (xe 10 g) 0 = M5 606 g := by
              rw [c3.1.2.1 0 (by decide) (by decide) (by decide) (by decide) (by decide), tlo 606 g (by decide) (by decide)]
              exact gl0.1
            have h0 : M5 617 g ≠ -1 → 0 ≤ M5 621 g := fun _ => by
              rw [← e11 621 g (by decide) (by decide) (by decide) (by decide)]
              have q := hI2 621 g (by decide)
              rw [xri_row rfl rfl] at q
              exact q.1
            obtain ⟨z1, z2, z3, z4, z5, z6⟩ := ga_z ⟨g1, g2'⟩ tl l0 hp5 (fun p => (rf_e (fun i => rl 601 i (by decide) (by decide) (by decide) (by decide) (by decide))).symm) h0 c4 e10
            refine ⟨rest ⟨z2, fun k k0 k1 => ?_, ?_, fun j j0 j1 => ?_⟩, z1⟩
            · rw [z4 14 k (by decide) (by omega), e11 598 34 (by decide) (by decide) (by decide) (by decide), e11 622 k (by decide) (by decide) (by decide) (by decide)]
              exact tdl k k0 k1
            · intro a b a0 a1 b0 b1 u v w
              have ee : ∀ (n : Nat) (j : Int), 607 ≤ n → n ≤ 611 → S n j = Rb n j := fun n j u1 u2 => (e11 n j (by omega) (by omega) (by omega) (by omega)).trans (tlo n j (by omega) (by omega))
              have e6' : ∀ j : Int, S 606 j ≠ 0 → Rb 606 j ≠ 0 := fun j u => by
                by_cases e : j = g
                · rw [e]; exact gl0.2
                · rw [z5 j e, tlo 606 j (by decide) (by decide)] at u
                  exact u
              rw [ee 607 _ (by decide) (by decide), ee 607 _ (by decide) (by decide), ee 608 _ (by decide) (by decide), ee 608 _ (by decide) (by decide), ee 609 _ (by decide) (by decide), ee 609 _ (by decide) (by decide), ee 610 _ (by decide) (by decide), ee 610 _ (by decide) (by decide), ee 611 _ (by decide) (by decide), ee 611 _ (by decide) (by decide)] at w
              exact gu a b a0 a1 b0 b1 (e6' a u) (e6' b v) w
            · by_cases e : j = g
              · rw [e]; exact z3
              · have xj := xgx (g := j) ⟨j0, j1⟩
                have k := kGa j0 j1
                have k1 := (kf_15_9 k).2
                have k2 := (kf_15_10 k).2
                have y := h.2.2.2.2.2.2.2 j j0 j1
                have sR : ∀ b : Nat, 606 ≤ b → b ≤ 621 → b ≠ 615 → b ≠ 616 → b ≠ 618 → S b j = R b j := fun b u1 u2 u3 u4 u5 => by
                  have s1 : S b j = M5 b j := by
                    by_cases v : b = 606
                    · rw [v]; exact z5 j e
                    · exact e11 b j (by omega) (by omega) (by omega) v
                  rw [s1, tr b j u3 u4 u5 (by omega) (by omega) e, gr b j u4 e, lk.1 b j (by omega) (by omega) (by omega) (by omega)]
                have D0 : ∀ i : Int, D (xe 10 j) i = C (xe 10 j) i := fun i => (z4 _ i (by omega) (by omega)).trans (cl _ i (by rw [k]; decide) (by omega) (by omega) (by omega) (by omega) (by omega))
                have D1 : ∀ i : Int, D (xe 10 j + 1) i = C (xe 10 j + 1) i := fun i => (z4 _ i (by omega) (by omega)).trans (cl _ i (by rw [k1]; decide) (by omega) (by omega) (by omega) (by omega) (by omega))
                have D2 : ∀ i : Int, D (xe 10 j + 2) i = C (xe 10 j + 2) i := fun i => (z4 _ i (by omega) (by omega)).trans (cl _ i (by rw [k2]; decide) (by omega) (by omega) (by omega) (by omega) (by omega))
                refine ⟨by rw [D0, sR 606 (by decide) (by decide) (by decide) (by decide) (by decide)]; exact y.1, fun u => ?_⟩
                rw [sR 606 (by decide) (by decide) (by decide) (by decide) (by decide)] at u
                have z := RG1.q hG hI j0 u
                refine ((y.2 u).r z.1 z.2 (fun b b0 b1 b2 b3 b4 => sR b (by omega) b1 b2 b3 b4) (fun k k0 k1 => ?_) (fun k k0 k1 => ?_)).e (fun i _ => D0 i) D1 D2
                · have o1 : 360 * j + k < 360 * g ∨ 360 * g + 360 ≤ 360 * j + k := by omega
                  rw [e11 615 _ (by decide) (by decide) (by decide) (by decide), e11 616 _ (by decide) (by decide) (by decide) (by decide), (tr6 _ o1).1, (tr6 _ o1).2, gr6 _ o1, gr0 615 _ (by decide), lk.1 615 _ (by decide) (by decide) (by decide) (by decide), lk.1 616 _ (by decide) (by decide) (by decide) (by decide)]
                  exact ⟨rfl, rfl⟩
                · have o1 : 400 * j + k < 400 * g ∨ 400 * g + 400 ≤ 400 * j + k := by omega
                  rw [e11 618 _ (by decide) (by decide) (by decide) (by decide), tr8 _ o1, gr0 618 _ (by decide), lk.1 618 _ (by decide) (by decide) (by decide) (by decide)]
  · rcases p with ⟨p0, p1, p2⟩ | ⟨p0, -⟩
    · rcases q with ⟨q0, q1, q2⟩ | ⟨q0, -⟩ | ⟨h', t, k, g, o, cc, e, M3, M4, M5, ⟨Rb, i, ⟨R1, px, -⟩, -⟩, -⟩
      · rw [q2] at early ⊢
        rw [q2] at rest
        exact ⟨rest (early p2 lr), by omega⟩
      · exact absurd q0.1 hx
      · exact absurd px.2.2.2.2.2.2.2.1.1 hx
    · exact absurd p0.1 hx
end
section
/-! ===== the class: verdict leaves the flows alone ===== -/
noncomputable def OL (T M : jm) : Prop := ∀ (b : Nat) (k : Int), 29 ≤ b → b ≤ 412 → M b k = T b k
noncomputable def O3 (T M : jm) : Prop := ∀ (b : Nat) (k : Int), b ≠ 18 → b ≠ 19 → b ≠ 20 → M b k = T b k
theorem kfl0 : ∀ n : Nat, n < 384 → 1 ≤ kd (29 + n) ∧ kd (29 + n) ≤ 8 := by decide +kernel
theorem kw_fl {W : List (Nat × Nat)} (h : W.all (fun w => Nat.ble 9 w.1) = true) {k : Nat} (hk : k ≤ 8) (i : Int) : kw W k i = false := by
  induction W with
  | nil => rfl
  | cons w r ih =>
    rw [List.all_cons, Bool.and_eq_true] at h
    unfold kw
    rw [ih h.2, Bool.or_false]
    unfold kh
    have a := Nat.le_of_ble_eq_true h.1
    cases e : Nat.beq w.1 k with
    | false => rfl
    | true => have q := Nat.eq_of_beq_eq_true e; omega
theorem OL.f {W : List (Nat × Nat)} {T M : jm} (f : FR W T M) (h : W.all (fun w => Nat.ble 9 w.1) = true) : OL T M := fun b k b0 b1 => by
  have q := kfl0 (b - 29) (by omega)
  rw [show 29 + (b - 29) = b by omega] at q
  exact f b k (kw_fl h q.2 k)
theorem OL.t {T M N : jm} (h : OL T M) (h2 : OL M N) : OL T N := fun b k b0 b1 => (h2 b k b0 b1).trans (h b k b0 b1)
noncomputable def W_c_Flow_describe_o : List (Nat × Nat) := [(1, 1), (1, 2), (2, 1000), (7, 1000)]
theorem c_Flow_describe_o_L57 {A : Nat → Option (Nat × (Nat → Int32))} {Q : Option Value → jm → Prop} {T : jm} {x : Nat} (k_x : kd x = 18) {y : Int} {z : Int} (q : ∀ (M' : jm), CI M' → FR W_c_Flow_describe_o T M' → (O3 T M') → Q none M') : ∀ (nM : Nat) (M : jm) (k : Int) (i : Int), CI M → FR W_c_Flow_describe_o T M → (-2147483648) ≤ y ∧ y ≤ 2147483647 → (-2147483648) ≤ z ∧ z ≤ 2147483647 → (-1) ≤ k ∧ k ≤ 11 → 0 ≤ i ∧ i ≤ 2 → (O3 T M) → 2 - i ≤ nM → jr A 3 xm_57 57 [(2, .int (Int32.ofInt (y))), (3, .int (Int32.ofInt (z))), (4, .int (Int32.ofInt (k))), (5, .int (Int32.ofInt (i))), (0, .ref (18)), (1, .ref (x))] [] M Q := by
  intro nM
  induction nM using Nat.strongRecOn with
  | ind nM ih =>
    intro M k i hC_M ht_M h_y h_z h_k h_i hy0 hm
    refine jr.iload rfl rfl ?_
    refine jr.iconst rfl ?_
    refine jr.icmp_ge rfl rfl (by omega) (by omega) (fun h60 => ?_) (fun h60 => ?_)
    · exact jr.vreturn rfl rfl (q _ hC_M ht_M  hy0)
    · refine jr.aload_n rfl rfl ?_
      refine jr.getf (i := 3) (v := .ref 19) rfl rfl (by decide) rfl (by decide) rfl rfl rfl rfl ?_
      refine jr.iload rfl rfl ?_
      refine jr.aload_n rfl rfl ?_
      refine jr.iload_n rfl rfl ?_
      refine jr.iload rfl rfl ?_
      refine jr_v rfl rfl (Or.inl rfl) rfl rfl (Nat.lt_trans (kx_18 k_x).1 (by decide)) (kx_18 k_x).2 ⟨rfl, Nat.le_of_ble_eq_true rfl, Nat.le_of_ble_eq_true rfl⟩ rfl (jc.deep (c_Headers_addressOf hC_M k_x (by omega) (by omega) (fun r1 z1  => ?_)) (by decide))
      refine jr.last (i := i) (x := r1) rfl (by decide) rfl (by decide) (by omega) (by omega) ?_
      refine jr.aload_n rfl rfl ?_
      refine jr.getf (i := 4) (v := .ref 20) rfl rfl (by decide) rfl (by decide) rfl rfl rfl rfl ?_
      refine jr.iload rfl rfl ?_
      refine jr.iload rfl rfl ?_
      refine jr.bipush rfl (by decide) ?_
      refine jr.icmp_ne rfl rfl (by omega) (by omega) (fun h87 => ?_) (fun h87 => ?_)
      · refine jr.aload_n rfl rfl ?_
        refine jr.iload_n rfl rfl ?_
        refine jr.iload rfl rfl ?_
        refine jr_v rfl rfl (Or.inl rfl) rfl rfl (Nat.lt_trans (kx_18 k_x).1 (by decide)) (kx_18 k_x).2 ⟨rfl, Nat.le_of_ble_eq_true rfl, Nat.le_of_ble_eq_true rfl⟩ rfl (jc.deep (c_Headers_valueOf (CI.u hC_M (i := i) (show kd 19 = 2 from rfl) (show (-9223372036854775808 : Int) ≤ _ ∧ _ ≤ (9223372036854775807 : Int) from by omega) rfl) k_x (by omega) (by omega) (fun r2 z2  => ?_)) (by decide))
        refine jr.l2i rfl ?_
        refine jr.iw (j_w r2) (j_w_eq _) ?_
        have b3 : -2147483648 ≤ j_w r2 ∧ j_w r2 ≤ 2147483647 := jb_any _
        generalize j_w r2 = v3 at b3 ⊢
        refine jr.iast (i := i) (x := v3) rfl (by decide) rfl (by decide) (by omega) (by omega) ?_
        refine jr.iinc rfl rfl (by decide) rfl ?_
        refine jr.goto rfl rfl ?_
        refine jr.pick [1, 2, 3, 0, 4, 5] rfl rfl ?_
        exact ih (nM - 1) (by omega) ((ju (ju M 19 i r1) 20 i v3)) k (i + 1) (CI.u (CI.u hC_M (i := i) (show kd 19 = 2 from rfl) (show (-9223372036854775808 : Int) ≤ _ ∧ _ ≤ (9223372036854775807 : Int) from by omega) rfl) (i := i) (show kd 20 = 7 from rfl) (show (-2147483648 : Int) ≤ _ ∧ _ ≤ (2147483647 : Int) from by omega) rfl) (FR.o (FR.o ht_M (show kd 19 = 2 from rfl) rfl) (show kd 20 = 7 from rfl) rfl) (by omega) (by omega) (by omega) (by omega) (fun b k b0 b1 b2 => by rw [ju_c _ _ b2, ju_c _ _ b1]; exact hy0 b k b0 b1 b2) (by omega)
      · refine jr.aload_n rfl rfl ?_
        refine jr.iload_n rfl rfl ?_
        refine jr.iconst rfl ?_
        refine jr_v rfl rfl (Or.inl rfl) rfl rfl (Nat.lt_trans (kx_18 k_x).1 (by decide)) (kx_18 k_x).2 ⟨rfl, Nat.le_of_ble_eq_true rfl, Nat.le_of_ble_eq_true rfl⟩ rfl (jc.deep (c_Headers_valueOf (CI.u hC_M (i := i) (show kd 19 = 2 from rfl) (show (-9223372036854775808 : Int) ≤ _ ∧ _ ≤ (9223372036854775807 : Int) from by omega) rfl) k_x (by omega) (by omega) (fun r4 z4  => ?_)) (by decide))
        refine jr.bipush rfl (by decide) ?_
        refine jr.lushr rfl ?_
        have b5 : -9223372036854775808 ≤ jl_ushr r4 16 ∧ jl_ushr r4 16 ≤ 9223372036854775807 := jbl_any _
        generalize jl_ushr r4 16 = v5 at b5 ⊢
        refine jr.goto rfl rfl ?_
        refine jr.l2i rfl ?_
        refine jr.iw (j_w v5) (j_w_eq _) ?_
        have b6 : -2147483648 ≤ j_w v5 ∧ j_w v5 ≤ 2147483647 := jb_any _
        generalize j_w v5 = v6 at b6 ⊢
        refine jr.iast (i := i) (x := v6) rfl (by decide) rfl (by decide) (by omega) (by omega) ?_
        refine jr.iinc rfl rfl (by decide) rfl ?_
        refine jr.goto rfl rfl ?_
        refine jr.pick [1, 2, 3, 0, 4, 5] rfl rfl ?_
        exact ih (nM - 1) (by omega) ((ju (ju M 19 i r1) 20 i v6)) k (i + 1) (CI.u (CI.u hC_M (i := i) (show kd 19 = 2 from rfl) (show (-9223372036854775808 : Int) ≤ _ ∧ _ ≤ (9223372036854775807 : Int) from by omega) rfl) (i := i) (show kd 20 = 7 from rfl) (show (-2147483648 : Int) ≤ _ ∧ _ ≤ (2147483647 : Int) from by omega) rfl) (FR.o (FR.o ht_M (show kd 19 = 2 from rfl) rfl) (show kd 20 = 7 from rfl) rfl) (by omega) (by omega) (by omega) (by omega) (fun b k b0 b1 b2 => by rw [ju_c _ _ b2, ju_c _ _ b1]; exact hy0 b k b0 b1 b2) (by omega)
theorem c_Flow_describe_o_L54 {A : Nat → Option (Nat × (Nat → Int32))} {Q : Option Value → jm → Prop} {T : jm} {x : Nat} (k_x : kd x = 18) {y : Int} {z : Int} (q : ∀ (M' : jm), CI M' → FR W_c_Flow_describe_o T M' → (O3 T M') → Q none M') : ∀ (nM : Nat) (M : jm) (k : Int), CI M → FR W_c_Flow_describe_o T M → (-2147483648) ≤ y ∧ y ≤ 2147483647 → (-2147483648) ≤ z ∧ z ≤ 2147483647 → (-1) ≤ k ∧ k ≤ 11 → (O3 T M) → 0 ≤ nM → jr A 3 xm_57 54 [(2, .int (Int32.ofInt (y))), (3, .int (Int32.ofInt (z))), (4, .int (Int32.ofInt (k))), (0, .ref (18)), (1, .ref (x))] [] M Q := by
  intro nM
  induction nM using Nat.strongRecOn with
  | ind nM ih =>
    intro M k hC_M ht_M h_y h_z h_k hy0 hm
    refine jr.iconst rfl ?_
    refine jr.istore rfl (by decide) rfl ?_
    refine jr.pick [1, 2, 3, 0, 4, 5] rfl rfl ?_
    exact c_Flow_describe_o_L57 k_x q 2 M k 0 hC_M ht_M (by omega) (by omega) (by omega) (by omega) hy0 (by omega)
theorem c_Flow_describe_o {A : Nat → Option (Nat × (Nat → Int32))} {Q : Option Value → jm → Prop} {T : jm} {M : jm} (hC_M : CI M) (ht_M : FR W_c_Flow_describe_o T M) {x : Nat} (k_x : kd x = 18) {y : Int} (h_y : (-2147483648) ≤ y ∧ y ≤ 2147483647) {z : Int} (h_z : (-2147483648) ≤ z ∧ z ≤ 2147483647) (p0 : T = M) (q : ∀ (M' : jm), CI M' → FR W_c_Flow_describe_o T M' → (O3 T M') → Q none M') : jc A 4 57 [.ref (18), .ref (x), .int (Int32.ofInt (y)), .int (Int32.ofInt (z))] M Q := by
  refine jc_of (m := xm_57) rfl (Nat.le_of_ble_eq_true rfl) rfl ?_
  refine jr.aload_n rfl rfl ?_
  refine jr.iload_n rfl rfl ?_
  refine jr_v rfl rfl (Or.inl rfl) rfl rfl (Nat.lt_trans (kx_18 k_x).1 (by decide)) (kx_18 k_x).2 ⟨rfl, Nat.le_of_ble_eq_true rfl, Nat.le_of_ble_eq_true rfl⟩ rfl (jc.deep (c_Headers_kindAt hC_M k_x (by omega) (fun r1 z1 w1_0 w1_1 => ?_)) (by decide))
  refine jr.istore rfl (by decide) rfl ?_
  refine jr.aload_n rfl rfl ?_
  refine jr.aload_n rfl rfl ?_
  refine jr.iload_n rfl rfl ?_
  refine jr_v rfl rfl (Or.inl rfl) rfl rfl (Nat.lt_trans (kx_18 k_x).1 (by decide)) (kx_18 k_x).2 ⟨rfl, Nat.le_of_ble_eq_true rfl, Nat.le_of_ble_eq_true rfl⟩ rfl (jc.deep (c_Headers_kindAt hC_M k_x (by omega) (fun r2 z2 w2_0 w2_1 => ?_)) (by decide))
  refine jr.iconst rfl ?_
  refine jr.icmp_ne rfl rfl (by omega) (by omega) (fun h14 => ?_) (fun h14 => ?_)
  · refine jr.iconst rfl ?_
    refine jr.putf (i := 1) (x := 0) rfl rfl (by decide) rfl (by decide) rfl rfl rfl rfl rfl ?_
    refine jr.aload_n rfl rfl ?_
    refine jr.iload rfl rfl ?_
    refine jr.bipush rfl (by decide) ?_
    refine jr.icmp_ne rfl rfl (by omega) (by omega) (fun h30 => ?_) (fun h30 => ?_)
    · refine jr.iload rfl rfl ?_
      refine jr.bipush rfl (by decide) ?_
      refine jr.icmp_ne rfl rfl (by omega) (by omega) (fun h41 => ?_) (fun h41 => ?_)
      · refine jr.bipush rfl (by decide) ?_
        refine jr.putf (i := 2) (x := 17) rfl rfl (by decide) rfl (by decide) rfl rfl rfl rfl rfl ?_
        refine jr.pick [3, 4, 0, 1, 2] rfl rfl ?_
        exact c_Flow_describe_o_L54 k_x q 0 ((ju (ju M 18 1 0) 18 2 17)) r1 (CI.u (CI.u hC_M (i := 1) (show kd 18 = 1 from rfl) (show (0 : Int) ≤ _ ∧ _ ≤ (1 : Int) from by omega) rfl) (i := 2) (show kd 18 = 1 from rfl) (show (-2147483648 : Int) ≤ _ ∧ _ ≤ (2147483647 : Int) from by omega) rfl) (FR.o (FR.o ht_M (show kd 18 = 1 from rfl) rfl) (show kd 18 = 1 from rfl) rfl) (by omega) (by omega) (by omega) (fun b k b0 _ _ => by rw [ju_c _ _ b0, ju_c _ _ b0, p0]) (by omega)
      · refine jr.bipush rfl (by decide) ?_
        refine jr.goto rfl rfl ?_
        refine jr.putf (i := 2) (x := 6) rfl rfl (by decide) rfl (by decide) rfl rfl rfl rfl rfl ?_
        refine jr.pick [3, 4, 0, 1, 2] rfl rfl ?_
        exact c_Flow_describe_o_L54 k_x q 0 ((ju (ju M 18 1 0) 18 2 6)) r1 (CI.u (CI.u hC_M (i := 1) (show kd 18 = 1 from rfl) (show (0 : Int) ≤ _ ∧ _ ≤ (1 : Int) from by omega) rfl) (i := 2) (show kd 18 = 1 from rfl) (show (-2147483648 : Int) ≤ _ ∧ _ ≤ (2147483647 : Int) from by omega) rfl) (FR.o (FR.o ht_M (show kd 18 = 1 from rfl) rfl) (show kd 18 = 1 from rfl) rfl) (by omega) (by omega) (by omega) (fun b k b0 _ _ => by rw [ju_c _ _ b0, ju_c _ _ b0, p0]) (by omega)
    · refine jr.iconst rfl ?_
      refine jr.goto rfl rfl ?_
      refine jr.putf (i := 2) (x := 1) rfl rfl (by decide) rfl (by decide) rfl rfl rfl rfl rfl ?_
      refine jr.pick [3, 4, 0, 1, 2] rfl rfl ?_
      exact c_Flow_describe_o_L54 k_x q 0 ((ju (ju M 18 1 0) 18 2 1)) r1 (CI.u (CI.u hC_M (i := 1) (show kd 18 = 1 from rfl) (show (0 : Int) ≤ _ ∧ _ ≤ (1 : Int) from by omega) rfl) (i := 2) (show kd 18 = 1 from rfl) (show (-2147483648 : Int) ≤ _ ∧ _ ≤ (2147483647 : Int) from by omega) rfl) (FR.o (FR.o ht_M (show kd 18 = 1 from rfl) rfl) (show kd 18 = 1 from rfl) rfl) (by omega) (by omega) (by omega) (fun b k b0 _ _ => by rw [ju_c _ _ b0, ju_c _ _ b0, p0]) (by omega)
  · refine jr.iconst rfl ?_
    refine jr.goto rfl rfl ?_
    refine jr.putf (i := 1) (x := 1) rfl rfl (by decide) rfl (by decide) rfl rfl rfl rfl rfl ?_
    refine jr.aload_n rfl rfl ?_
    refine jr.iload rfl rfl ?_
    refine jr.bipush rfl (by decide) ?_
    refine jr.icmp_ne rfl rfl (by omega) (by omega) (fun h30 => ?_) (fun h30 => ?_)
    · refine jr.iload rfl rfl ?_
      refine jr.bipush rfl (by decide) ?_
      refine jr.icmp_ne rfl rfl (by omega) (by omega) (fun h41 => ?_) (fun h41 => ?_)
      · refine jr.bipush rfl (by decide) ?_
        refine jr.putf (i := 2) (x := 17) rfl rfl (by decide) rfl (by decide) rfl rfl rfl rfl rfl ?_
        refine jr.pick [3, 4, 0, 1, 2] rfl rfl ?_
        exact c_Flow_describe_o_L54 k_x q 0 ((ju (ju M 18 1 1) 18 2 17)) r1 (CI.u (CI.u hC_M (i := 1) (show kd 18 = 1 from rfl) (show (0 : Int) ≤ _ ∧ _ ≤ (1 : Int) from by omega) rfl) (i := 2) (show kd 18 = 1 from rfl) (show (-2147483648 : Int) ≤ _ ∧ _ ≤ (2147483647 : Int) from by omega) rfl) (FR.o (FR.o ht_M (show kd 18 = 1 from rfl) rfl) (show kd 18 = 1 from rfl) rfl) (by omega) (by omega) (by omega) (fun b k b0 _ _ => by rw [ju_c _ _ b0, ju_c _ _ b0, p0]) (by omega)
      · refine jr.bipush rfl (by decide) ?_
        refine jr.goto rfl rfl ?_
        refine jr.putf (i := 2) (x := 6) rfl rfl (by decide) rfl (by decide) rfl rfl rfl rfl rfl ?_
        refine jr.pick [3, 4, 0, 1, 2] rfl rfl ?_
        exact c_Flow_describe_o_L54 k_x q 0 ((ju (ju M 18 1 1) 18 2 6)) r1 (CI.u (CI.u hC_M (i := 1) (show kd 18 = 1 from rfl) (show (0 : Int) ≤ _ ∧ _ ≤ (1 : Int) from by omega) rfl) (i := 2) (show kd 18 = 1 from rfl) (show (-2147483648 : Int) ≤ _ ∧ _ ≤ (2147483647 : Int) from by omega) rfl) (FR.o (FR.o ht_M (show kd 18 = 1 from rfl) rfl) (show kd 18 = 1 from rfl) rfl) (by omega) (by omega) (by omega) (fun b k b0 _ _ => by rw [ju_c _ _ b0, ju_c _ _ b0, p0]) (by omega)
    · refine jr.iconst rfl ?_
      refine jr.goto rfl rfl ?_
      refine jr.putf (i := 2) (x := 1) rfl rfl (by decide) rfl (by decide) rfl rfl rfl rfl rfl ?_
      refine jr.pick [3, 4, 0, 1, 2] rfl rfl ?_
      exact c_Flow_describe_o_L54 k_x q 0 ((ju (ju M 18 1 1) 18 2 1)) r1 (CI.u (CI.u hC_M (i := 1) (show kd 18 = 1 from rfl) (show (0 : Int) ≤ _ ∧ _ ≤ (1 : Int) from by omega) rfl) (i := 2) (show kd 18 = 1 from rfl) (show (-2147483648 : Int) ≤ _ ∧ _ ≤ (2147483647 : Int) from by omega) rfl) (FR.o (FR.o ht_M (show kd 18 = 1 from rfl) rfl) (show kd 18 = 1 from rfl) rfl) (by omega) (by omega) (by omega) (fun b k b0 _ _ => by rw [ju_c _ _ b0, ju_c _ _ b0, p0]) (by omega)
noncomputable def W_c_Flows_findEnds_o : List (Nat × Nat) := [(1, 1), (1, 2), (2, 1000), (7, 1000), (9, 3), (9, 4), (9, 5)]
theorem c_Flows_findEnds_o {A : Nat → Option (Nat × (Nat → Int32))} {Q : Option Value → jm → Prop} {T : jm} {M : jm} (hC_M : CI M) (ht_M : FR W_c_Flows_findEnds_o T M) {x : Nat} (k_x : kd x = 18) (p0 : T = M) (q : ∀ (r : Int) (M' : jm), CI M' → FR W_c_Flows_findEnds_o T M' → 0 ≤ r ∧ r ≤ 1 → (OL T M') → Q (some (.int (Int32.ofInt r))) M') : jc A 5 89 [.ref (15), .ref (x)] M Q := by
  refine jc_of (m := xm_89) rfl (Nat.le_of_ble_eq_true rfl) rfl ?_
  refine jr.aload_n rfl rfl ?_
  refine jr.iconst rfl ?_
  refine jr.putf (i := 5) (x := 0) rfl rfl (by decide) rfl (by decide) rfl rfl rfl rfl rfl ?_
  refine jr.aload_n rfl rfl ?_
  refine jr.aload_n rfl rfl ?_
  refine jr.bipush rfl (by decide) ?_
  refine jr_v rfl rfl (Or.inl rfl) rfl rfl (Nat.lt_trans (kx_18 k_x).1 (by decide)) (kx_18 k_x).2 ⟨rfl, Nat.le_of_ble_eq_true rfl, Nat.le_of_ble_eq_true rfl⟩ rfl (jc.deep (c_Headers_firstOf (CI.u hC_M (i := 5) (show kd 15 = 9 from rfl) (show (0 : Int) ≤ _ ∧ _ ≤ (1 : Int) from by omega) rfl) k_x (by omega) (fun r1 z1 w1_0 => ?_)) (by decide))
  refine jr.putf (i := 3) (x := r1) rfl rfl (by decide) rfl (by decide) rfl rfl rfl rfl rfl ?_
  refine jr.aload_n rfl rfl ?_
  obtain ⟨v2, e2⟩ : ∃ z_, M x 4 = z_ := ⟨_, rfl⟩
  have b2 : (-2147483648) ≤ v2 ∧ v2 ≤ 2147483647 := by rw [← e2]; exact (CI.r hC_M k_x (by decide) 4)
  refine jr.getf (i := 4) (x := v2) (v := .int (Int32.ofInt (v2))) rfl rfl (Nat.lt_trans (kx_18 k_x).1 (by decide)) (kx_18 k_x).2 (by decide) rfl rfl ((ju_i _ _ (by decide)).trans ((ju_i _ _ (by decide)).trans e2)) rfl ?_
  refine jr.if_ne rfl rfl (by omega) (fun h19 => ?_) (fun h19 => ?_)
  · refine jr.iconst rfl ?_
    exact jr.ireturn rfl rfl rfl (q _ _ (CI.u (CI.u hC_M (i := 5) (show kd 15 = 9 from rfl) (show (0 : Int) ≤ _ ∧ _ ≤ (1 : Int) from by omega) rfl) (i := 3) (show kd 15 = 9 from rfl) (show (-2147483648 : Int) ≤ _ ∧ _ ≤ (2147483647 : Int) from by omega) rfl) (FR.o (FR.o ht_M (show kd 15 = 9 from rfl) rfl) (show kd 15 = 9 from rfl) rfl) (by omega) (fun b k b0 b1 => by rw [ju_c _ _ (show b ≠ 15 by omega), ju_c _ _ (show b ≠ 15 by omega), p0]))
  · refine jr.aload_n rfl rfl ?_
    refine jr.getf (i := 3) (x := r1) (v := .int (Int32.ofInt (r1))) rfl rfl (by decide) rfl (by decide) rfl rfl (ju_same _ _ _ _) rfl ?_
    refine jr.iconst rfl ?_
    refine jr.icmp_eq rfl rfl (by omega) (by omega) (fun h27 => ?_) (fun h27 => ?_)
    · refine jr.iconst rfl ?_
      exact jr.ireturn rfl rfl rfl (q _ _ (CI.u (CI.u hC_M (i := 5) (show kd 15 = 9 from rfl) (show (0 : Int) ≤ _ ∧ _ ≤ (1 : Int) from by omega) rfl) (i := 3) (show kd 15 = 9 from rfl) (show (-2147483648 : Int) ≤ _ ∧ _ ≤ (2147483647 : Int) from by omega) rfl) (FR.o (FR.o ht_M (show kd 15 = 9 from rfl) rfl) (show kd 15 = 9 from rfl) rfl) (by omega) (fun b k b0 b1 => by rw [ju_c _ _ (show b ≠ 15 by omega), ju_c _ _ (show b ≠ 15 by omega), p0]))
    · have sx27 : (0 : Int) ≤ r1 := by omega
      refine jr.aload_n rfl rfl ?_
      refine jr_v rfl rfl (Or.inl rfl) rfl rfl (Nat.lt_trans (kx_18 k_x).1 (by decide)) (kx_18 k_x).2 ⟨rfl, Nat.le_of_ble_eq_true rfl, Nat.le_of_ble_eq_true rfl⟩ rfl (jc.deep (c_Headers_pieceHeader (CI.u (CI.u hC_M (i := 5) (show kd 15 = 9 from rfl) (show (0 : Int) ≤ _ ∧ _ ≤ (1 : Int) from by omega) rfl) (i := 3) (show kd 15 = 9 from rfl) (show (-2147483648 : Int) ≤ _ ∧ _ ≤ (2147483647 : Int) from by omega) rfl) k_x (fun r3 z3 w3_0 => ?_)) (by decide))
      refine jr.iconst rfl ?_
      refine jr.icmp_eq rfl rfl (by omega) (by omega) (fun h35 => ?_) (fun h35 => ?_)
      · refine jr.aload_n rfl rfl ?_
        refine jr.aload_n rfl rfl ?_
        refine jr.aload_n rfl rfl ?_
        refine jr.getf (i := 3) (x := r1) (v := .int (Int32.ofInt (r1))) rfl rfl (by decide) rfl (by decide) rfl rfl (ju_same _ _ _ _) rfl ?_
        refine jr_v rfl rfl (Or.inl rfl) rfl rfl (Nat.lt_trans (kx_18 k_x).1 (by decide)) (kx_18 k_x).2 ⟨rfl, Nat.le_of_ble_eq_true rfl, Nat.le_of_ble_eq_true rfl⟩ rfl (jc.deep (c_Headers_innerOf (CI.u (CI.u hC_M (i := 5) (show kd 15 = 9 from rfl) (show (0 : Int) ≤ _ ∧ _ ≤ (1 : Int) from by omega) rfl) (i := 3) (show kd 15 = 9 from rfl) (show (-2147483648 : Int) ≤ _ ∧ _ ≤ (2147483647 : Int) from by omega) rfl) k_x (by omega) (fun r4 z4 w4_0 => ?_)) (by decide))
        refine jr.putf (i := 4) (x := r4) rfl rfl (by decide) rfl (by decide) rfl rfl rfl rfl rfl ?_
        refine jr.aload_n rfl rfl ?_
        refine jr.aload_n rfl rfl ?_
        refine jr.getf (i := 4) (x := r4) (v := .int (Int32.ofInt (r4))) rfl rfl (by decide) rfl (by decide) rfl rfl (ju_same _ _ _ _) rfl ?_
        refine jr_v rfl rfl (Or.inl rfl) rfl rfl (Nat.lt_trans (kx_18 k_x).1 (by decide)) (kx_18 k_x).2 ⟨rfl, Nat.le_of_ble_eq_true rfl, Nat.le_of_ble_eq_true rfl⟩ rfl (jc.deep (c_Headers_kindAt (CI.u (CI.u (CI.u hC_M (i := 5) (show kd 15 = 9 from rfl) (show (0 : Int) ≤ _ ∧ _ ≤ (1 : Int) from by omega) rfl) (i := 3) (show kd 15 = 9 from rfl) (show (-2147483648 : Int) ≤ _ ∧ _ ≤ (2147483647 : Int) from by omega) rfl) (i := 4) (show kd 15 = 9 from rfl) (show (-2147483648 : Int) ≤ _ ∧ _ ≤ (2147483647 : Int) from by omega) rfl) k_x (by omega) (fun r5 z5 w5_0 w5_1 => ?_)) (by decide))
        refine jr_s rfl rfl (Or.inr rfl) ⟨Nat.le_of_ble_eq_true rfl, Nat.le_of_ble_eq_true rfl⟩ rfl rfl (jc.deep (c_PacketWall_isCarriedKind (CI.u (CI.u (CI.u hC_M (i := 5) (show kd 15 = 9 from rfl) (show (0 : Int) ≤ _ ∧ _ ≤ (1 : Int) from by omega) rfl) (i := 3) (show kd 15 = 9 from rfl) (show (-2147483648 : Int) ≤ _ ∧ _ ≤ (2147483647 : Int) from by omega) rfl) (i := 4) (show kd 15 = 9 from rfl) (show (-2147483648 : Int) ≤ _ ∧ _ ≤ (2147483647 : Int) from by omega) rfl) (by omega) (fun r6 z6 w6_0 => ?_)) (by decide))
        refine jr.if_ne rfl rfl (by omega) (fun h63 => ?_) (fun h63 => ?_)
        · have sx63 : (1 : Int) ≤ r6 := by omega
          refine jr.aload_n rfl rfl ?_
          refine jr.aload_n rfl rfl ?_
          refine jr.aload_n rfl rfl ?_
          refine jr_v rfl rfl (Or.inl rfl) rfl rfl (by decide) rfl ⟨rfl, Nat.le_of_ble_eq_true rfl, Nat.le_of_ble_eq_true rfl⟩ rfl (jc.deep (c_Flows_isQuoting (CI.u (CI.u (CI.u hC_M (i := 5) (show kd 15 = 9 from rfl) (show (0 : Int) ≤ _ ∧ _ ≤ (1 : Int) from by omega) rfl) (i := 3) (show kd 15 = 9 from rfl) (show (-2147483648 : Int) ≤ _ ∧ _ ≤ (2147483647 : Int) from by omega) rfl) (i := 4) (show kd 15 = 9 from rfl) (show (-2147483648 : Int) ≤ _ ∧ _ ≤ (2147483647 : Int) from by omega) rfl) k_x (fun r7 z7  => ?_)) (by decide))
          refine jr.putf (i := 5) (x := r7) rfl rfl (by decide) rfl (by decide) rfl rfl rfl (j_zr (by omega)) (j_fz (by omega)) ?_
          refine jr.aload_n rfl rfl ?_
          refine jr.getf (i := 5) (x := r7) (v := .int (Int32.ofInt (r7))) rfl rfl (by decide) rfl (by decide) rfl rfl (ju_same _ _ _ _) rfl ?_
          refine jr.if_eq rfl rfl (by omega) (fun h81 => ?_) (fun h81 => ?_)
          · refine jr.aload_n rfl rfl ?_
            refine jr.getf (i := 2) (v := .ref 18) rfl rfl (by decide) rfl (by decide) rfl rfl rfl rfl ?_
            refine jr.aload_n rfl rfl ?_
            refine jr.aload_n rfl rfl ?_
            refine jr.getf (i := 3) (x := r1) (v := .int (Int32.ofInt (r1))) rfl rfl (by decide) rfl (by decide) rfl rfl ((ju_i _ _ (by decide)).trans ((ju_i _ _ (by decide)).trans (ju_same _ _ _ _))) rfl ?_
            refine jr.aload_n rfl rfl ?_
            refine jr.getf (i := 4) (x := r4) (v := .int (Int32.ofInt (r4))) rfl rfl (by decide) rfl (by decide) rfl rfl ((ju_i _ _ (by decide)).trans (ju_same _ _ _ _)) rfl ?_
            refine jr_v rfl rfl (Or.inl rfl) rfl rfl (by decide) rfl ⟨rfl, Nat.le_of_ble_eq_true rfl, Nat.le_of_ble_eq_true rfl⟩ rfl (jc.deep (c_Flow_describe_o (CI.u (CI.u (CI.u (CI.u hC_M (i := 5) (show kd 15 = 9 from rfl) (show (0 : Int) ≤ _ ∧ _ ≤ (1 : Int) from by omega) rfl) (i := 3) (show kd 15 = 9 from rfl) (show (-2147483648 : Int) ≤ _ ∧ _ ≤ (2147483647 : Int) from by omega) rfl) (i := 4) (show kd 15 = 9 from rfl) (show (-2147483648 : Int) ≤ _ ∧ _ ≤ (2147483647 : Int) from by omega) rfl) (i := 5) (show kd 15 = 9 from rfl) (show (0 : Int) ≤ _ ∧ _ ≤ (1 : Int) from by omega) rfl) (FR.rfl _ ((ju (ju (ju (ju M 15 5 0) 15 3 r1) 15 4 r4) 15 5 r7))) k_x (by omega) (by omega) rfl (fun M8 hC_M8 hf_M8 w8_0 => ?_)) (by decide))
            have ht_M8 : FR W_c_Flows_findEnds_o T M8 := FR.t (FR.o (FR.o (FR.o (FR.o ht_M (show kd 15 = 9 from rfl) rfl) (show kd 15 = 9 from rfl) rfl) (show kd 15 = 9 from rfl) rfl) (show kd 15 = 9 from rfl) rfl) hf_M8 (kw_sub rfl)
            refine jr.iconst rfl ?_
            exact jr.ireturn rfl rfl rfl (q _ _ hC_M8 ht_M8 (by omega) (fun b k b0 b1 => by rw [w8_0 b k (by omega) (by omega) (by omega), ju_c _ _ (show b ≠ 15 by omega), ju_c _ _ (show b ≠ 15 by omega), ju_c _ _ (show b ≠ 15 by omega), ju_c _ _ (show b ≠ 15 by omega), p0]))
          · have sx81 : (1 : Int) ≤ r7 := by omega
            refine jr.aload_n rfl rfl ?_
            refine jr.getf (i := 2) (v := .ref 18) rfl rfl (by decide) rfl (by decide) rfl rfl rfl rfl ?_
            refine jr.aload_n rfl rfl ?_
            refine jr.aload_n rfl rfl ?_
            refine jr.getf (i := 4) (x := r4) (v := .int (Int32.ofInt (r4))) rfl rfl (by decide) rfl (by decide) rfl rfl ((ju_i _ _ (by decide)).trans (ju_same _ _ _ _)) rfl ?_
            refine jr.iconst rfl ?_
            refine jr.iadd rfl ?_
            refine jr.aload_n rfl rfl ?_
            refine jr.getf (i := 4) (x := r4) (v := .int (Int32.ofInt (r4))) rfl rfl (by decide) rfl (by decide) rfl rfl ((ju_i _ _ (by decide)).trans (ju_same _ _ _ _)) rfl ?_
            refine jr.iconst rfl ?_
            refine jr.iadd rfl ?_
            refine jr_v rfl rfl (Or.inl rfl) rfl rfl (by decide) rfl ⟨rfl, Nat.le_of_ble_eq_true rfl, Nat.le_of_ble_eq_true rfl⟩ rfl (jc.deep (c_Flow_describe_o (CI.u (CI.u (CI.u (CI.u hC_M (i := 5) (show kd 15 = 9 from rfl) (show (0 : Int) ≤ _ ∧ _ ≤ (1 : Int) from by omega) rfl) (i := 3) (show kd 15 = 9 from rfl) (show (-2147483648 : Int) ≤ _ ∧ _ ≤ (2147483647 : Int) from by omega) rfl) (i := 4) (show kd 15 = 9 from rfl) (show (-2147483648 : Int) ≤ _ ∧ _ ≤ (2147483647 : Int) from by omega) rfl) (i := 5) (show kd 15 = 9 from rfl) (show (0 : Int) ≤ _ ∧ _ ≤ (1 : Int) from by omega) rfl) (FR.rfl _ ((ju (ju (ju (ju M 15 5 0) 15 3 r1) 15 4 r4) 15 5 r7))) k_x (by omega) (by omega) rfl (fun M9 hC_M9 hf_M9 w9_0 => ?_)) (by decide))
            have ht_M9 : FR W_c_Flows_findEnds_o T M9 := FR.t (FR.o (FR.o (FR.o (FR.o ht_M (show kd 15 = 9 from rfl) rfl) (show kd 15 = 9 from rfl) rfl) (show kd 15 = 9 from rfl) rfl) (show kd 15 = 9 from rfl) rfl) hf_M9 (kw_sub rfl)
            refine jr.goto rfl rfl ?_
            refine jr.iconst rfl ?_
            exact jr.ireturn rfl rfl rfl (q _ _ hC_M9 ht_M9 (by omega) (fun b k b0 b1 => by rw [w9_0 b k (by omega) (by omega) (by omega), ju_c _ _ (show b ≠ 15 by omega), ju_c _ _ (show b ≠ 15 by omega), ju_c _ _ (show b ≠ 15 by omega), ju_c _ _ (show b ≠ 15 by omega), p0]))
        · refine jr.iconst rfl ?_
          exact jr.ireturn rfl rfl rfl (q _ _ (CI.u (CI.u (CI.u hC_M (i := 5) (show kd 15 = 9 from rfl) (show (0 : Int) ≤ _ ∧ _ ≤ (1 : Int) from by omega) rfl) (i := 3) (show kd 15 = 9 from rfl) (show (-2147483648 : Int) ≤ _ ∧ _ ≤ (2147483647 : Int) from by omega) rfl) (i := 4) (show kd 15 = 9 from rfl) (show (-2147483648 : Int) ≤ _ ∧ _ ≤ (2147483647 : Int) from by omega) rfl) (FR.o (FR.o (FR.o ht_M (show kd 15 = 9 from rfl) rfl) (show kd 15 = 9 from rfl) rfl) (show kd 15 = 9 from rfl) rfl) (by omega) (fun b k b0 b1 => by rw [ju_c _ _ (show b ≠ 15 by omega), ju_c _ _ (show b ≠ 15 by omega), ju_c _ _ (show b ≠ 15 by omega), p0]))
      · have sx35 : (0 : Int) ≤ r3 := by omega
        refine jr.iconst rfl ?_
        exact jr.ireturn rfl rfl rfl (q _ _ (CI.u (CI.u hC_M (i := 5) (show kd 15 = 9 from rfl) (show (0 : Int) ≤ _ ∧ _ ≤ (1 : Int) from by omega) rfl) (i := 3) (show kd 15 = 9 from rfl) (show (-2147483648 : Int) ≤ _ ∧ _ ≤ (2147483647 : Int) from by omega) rfl) (FR.o (FR.o ht_M (show kd 15 = 9 from rfl) rfl) (show kd 15 = 9 from rfl) rfl) (by omega) (fun b k b0 b1 => by rw [ju_c _ _ (show b ≠ 15 by omega), ju_c _ _ (show b ≠ 15 by omega), p0]))
noncomputable def W_c_Flows_flowOf_o : List (Nat × Nat) := [(1, 1), (1, 2), (2, 1000), (7, 1000), (9, 3), (9, 4), (9, 5)]
theorem c_Flows_flowOf_o {A : Nat → Option (Nat × (Nat → Int32))} {Q : Option Value → jm → Prop} {T : jm} {M : jm} (hC_M : CI M) (ht_M : FR W_c_Flows_flowOf_o T M) {x : Nat} (k_x : kd x = 18) (p0 : T = M) (q : ∀ (r : Int) (M' : jm), CI M' → FR W_c_Flows_flowOf_o T M' → (-2147483648) ≤ r ∧ r ≤ 2147483647 → (OL T M') → Q (some (.int (Int32.ofInt r))) M') : jc A 6 78 [.ref (15), .ref (x)] M Q := by
  refine jc_of (m := xm_78) rfl (Nat.le_of_ble_eq_true rfl) rfl ?_
  refine jr.aload_n rfl rfl ?_
  refine jr.aload_n rfl rfl ?_
  refine jr_v rfl rfl (Or.inl rfl) rfl rfl (by decide) rfl ⟨rfl, Nat.le_of_ble_eq_true rfl, Nat.le_of_ble_eq_true rfl⟩ rfl (jc.deep (c_Flows_findEnds_o hC_M (FR.rfl _ M) k_x rfl (fun r1 M1 hC_M1 hf_M1 z1 w1_0 => ?_)) (by decide))
  have ht_M1 : FR W_c_Flows_flowOf_o T M1 := FR.t ht_M hf_M1 (kw_sub rfl)
  refine jr.if_eq rfl rfl (by omega) (fun h5 => ?_) (fun h5 => ?_)
  · refine jr.iconst rfl ?_
    exact jr.ireturn rfl rfl rfl (q _ _ hC_M1 ht_M1 (by omega) (by rw [p0]; exact w1_0))
  · have sx5 : (1 : Int) ≤ r1 := by omega
    refine jr.aload_n rfl rfl ?_
    obtain ⟨v3, e3⟩ : ∃ z_, M 15 0 = z_ := ⟨_, rfl⟩
    have b3 : 16 ≤ v3 ∧ v3 ≤ 17 := by rw [← e3]; exact (CI.r hC_M (show kd 15 = 9 from rfl) (by decide) 0)
    have e4 : M1 15 0 = v3 := (hf_M1.g (show kd 15 = 9 from rfl) rfl).trans e3
    refine jr_v rfl rfl (Or.inl rfl) rfl rfl (by decide) rfl ⟨rfl, Nat.le_of_ble_eq_true rfl, Nat.le_of_ble_eq_true rfl⟩ rfl (jc.deep (c_Flows_flowOfEnds hC_M1  e4 (fun r2 z2 w2_0 => ?_)) (by decide))
    refine jr.goto rfl rfl ?_
    exact jr.ireturn rfl rfl rfl (q _ _ hC_M1 ht_M1 (by omega) (by rw [p0]; exact w1_0))
noncomputable def W_c_PacketWall_verdict_o : List (Nat × Nat) := [(1, 1), (1, 2), (2, 1000), (7, 1000), (9, 3), (9, 4), (9, 5), (14, 0), (14, 1), (14, 2), (18, 3), (18, 4), (18, 5), (18, 6), (18, 7), (19, 1000), (20, 1000), (21, 1000), (22, 3), (22, 4), (22, 5), (22, 7), (22, 9), (22, 11), (22, 12), (22, 13), (22, 14), (22, 15), (22, 16), (22, 17), (22, 18), (22, 19), (24, 1000), (26, 1000), (27, 5), (27, 6), (28, 1000), (29, 1000), (30, 1000), (31, 1000), (32, 1000), (33, 2), (52, 0), (52, 1), (53, 1000), (54, 1000)]
theorem c_PacketWall_verdict_o {A : Nat → Option (Nat × (Nat → Int32))} {Q : Option Value → jm → Prop} {L : Int} {T : jm} {M : jm} (hC_M : CI M) (ht_M : FR W_c_PacketWall_verdict_o T M) {x : Int} (h_x : (-2147483648) ≤ x ∧ x ≤ 2147483647) (p0 : 0 ≤ M 421 4 ∧ M 421 4 ≤ 0) (p1 : LC M L) (p2 : L + 1000000 ≤ 2000000000) (p3 : PC M ) (p4 : T = M) (q : ∀ (r : Int) (M' : jm), CI M' → FR W_c_PacketWall_verdict_o T M' → (-2147483648) ≤ r ∧ r ≤ 2147483647 → (LC M' (L + 1000000)) → (0 ≤ M' 421 4 ∧ M' 421 4 ≤ 0) → (OL T M') → Q (some (.int (Int32.ofInt r))) M') : jc A 8 28 [.ref (0), .int (Int32.ofInt (x))] M Q := by
  refine jc_of (m := xm_28) rfl (Nat.le_of_ble_eq_true rfl) rfl ?_
  obtain ⟨v1, e1⟩ : ∃ z_, M 421 4 = z_ := ⟨_, rfl⟩
  have b1 : 0 ≤ v1 ∧ v1 ≤ 1 := by rw [← e1]; exact (CI.r hC_M (show kd 421 = 22 from rfl) (by decide) 4)
  have b2 : 0 ≤ v1 ∧ v1 ≤ 0 := by rw [← e1]; exact p0
  refine jr.iload_n rfl rfl ?_
  refine jr.if_lt rfl rfl (by omega) (fun h1 => ?_) (fun h1 => ?_)
  · refine jr.bipush rfl (by decide) ?_
    exact jr.ireturn rfl rfl rfl (q _ _ hC_M ht_M (by omega) (LC.le p1 (by omega)) (by have hq0 : M 421 4 = v1 := e1; omega) (fun b k _ _ => by rw [p4]))
  · refine jr.iload_n rfl rfl ?_
    refine jr.bipush rfl (by decide) ?_
    refine jr.icmp_lt rfl rfl (by omega) (by omega) (fun h7 => ?_) (fun h7 => ?_)
    · refine jr.aload_n rfl rfl ?_
      refine jr.getf (i := 11) (v := .ref 421) rfl rfl (by decide) rfl (by decide) rfl rfl rfl rfl ?_
      obtain ⟨v3, e3⟩ : ∃ z_, M 421 2 = z_ := ⟨_, rfl⟩
      have b3 : 0 ≤ v3 ∧ v3 ≤ 597 := by rw [← e3]; exact (CI.r hC_M (show kd 421 = 22 from rfl) (by decide) 2)
      have k4 : kd (v3).toNat = 47 := ((congrArg (fun z : Int => kd z.toNat) (show M 421 2 = v3 from e3)).symm.trans (CI.x hC_M (show kd 421 = 22 from rfl) 2 rfl (by decide)))
      refine jr.getf (i := 2) (x := v3) (v := .ref (v3.toNat)) rfl rfl (by decide) rfl (by decide) rfl rfl e3 rfl ?_
      obtain ⟨v5, e5⟩ : ∃ z_, M ((v3.toNat)) 3 = z_ := ⟨_, rfl⟩
      have b5 : 0 ≤ v5 ∧ v5 ≤ 16 := by rw [← e5]; exact (CI.r hC_M k4 (by decide) 3)
      refine jr.getf (i := 3) (x := v5) (v := .int (Int32.ofInt (v5))) rfl rfl (Nat.lt_trans (kx_47 k4).1 (by decide)) (kx_47 k4).2 (by decide) rfl rfl e5 rfl ?_
      refine jr.if_eq rfl rfl (by omega) (fun h23 => ?_) (fun h23 => ?_)
      · refine jr.bipush rfl (by decide) ?_
        exact jr.ireturn rfl rfl rfl (q _ _ hC_M ht_M (by omega) (LC.le p1 (by omega)) (by have hq0 : M 421 4 = v1 := e1; omega) (fun b k _ _ => by rw [p4]))
      · have sx23 : (1 : Int) ≤ v5 := by omega
        refine jr.aload_n rfl rfl ?_
        refine jr.getf (i := 11) (v := .ref 421) rfl rfl (by decide) rfl (by decide) rfl rfl rfl rfl ?_
        refine jr_v rfl rfl (Or.inl rfl) rfl rfl (by decide) rfl ⟨rfl, Nat.le_of_ble_eq_true rfl, Nat.le_of_ble_eq_true rfl⟩ rfl (jc.deep (c_Machine_hasNoFailureLeft hC_M  (fun r6 z6  => ?_)) (by decide))
        refine jr.if_eq rfl rfl (by omega) (fun h33 => ?_) (fun h33 => ?_)
        · refine jr.aload_n rfl rfl ?_
          refine jr.getf (i := 3) (v := .ref 3) rfl rfl (by decide) rfl (by decide) rfl rfl rfl rfl ?_
          refine jr.aload_n rfl rfl ?_
          refine jr.getf (i := 2) (v := .ref 2) rfl rfl (by decide) rfl (by decide) rfl rfl rfl rfl ?_
          refine jr.iload_n rfl rfl ?_
          have k7 := kxe_42 (a := 2) rfl (i := x) (by omega) (by omega)
          refine jr.aald (c := (xe 2 x)) rfl (by decide) rfl (by decide) (by decide) rfl (by decide) (by omega) (by omega) k7.1 ?_
          refine jr_v rfl rfl (Or.inl rfl) rfl rfl (by decide) rfl ⟨rfl, Nat.le_of_ble_eq_true rfl, Nat.le_of_ble_eq_true rfl⟩ rfl (jc.deep (c_Headers_readAll hC_M (FR.rfl _ M) (show kd 3 = 18 from rfl) k7.2 (fun M8 hC_M8 hf_M8 w8_0 => ?_)) (by decide))
          have ht_M8 : FR W_c_PacketWall_verdict_o T M8 := FR.t ht_M hf_M8 (kw_sub rfl)
          refine jr.aload_n rfl rfl ?_
          refine jr.getf (i := 9) (v := .ref 15) rfl rfl (by decide) rfl (by decide) rfl rfl rfl rfl ?_
          refine jr.aload_n rfl rfl ?_
          refine jr.getf (i := 3) (v := .ref 3) rfl rfl (by decide) rfl (by decide) rfl rfl rfl rfl ?_
          refine jr_v rfl rfl (Or.inl rfl) rfl rfl (by decide) rfl ⟨rfl, Nat.le_of_ble_eq_true rfl, Nat.le_of_ble_eq_true rfl⟩ rfl (jc.deep (c_Flows_flowOf_o hC_M8 (FR.rfl _ M8) (show kd 3 = 18 from rfl) rfl (fun r9 M9 hC_M9 hf_M9 z9 w9_0 => ?_)) (by decide))
          have ht_M9 : FR W_c_PacketWall_verdict_o T M9 := FR.t ht_M8 hf_M9 (kw_sub rfl)
          refine jr.istore_n rfl (by decide) rfl ?_
          refine jr.aload_n rfl rfl ?_
          refine jr.getf (i := 11) (v := .ref 421) rfl rfl (by decide) rfl (by decide) rfl rfl rfl rfl ?_
          refine jr.aload_n rfl rfl ?_
          refine jr.getf (i := 3) (v := .ref 3) rfl rfl (by decide) rfl (by decide) rfl rfl rfl rfl ?_
          refine jr.iload_n rfl rfl ?_
          refine jr.aload_n rfl rfl ?_
          refine jr.getf (i := 9) (v := .ref 15) rfl rfl (by decide) rfl (by decide) rfl rfl rfl rfl ?_
          refine jr.iload_n rfl rfl ?_
          refine jr_v rfl rfl (Or.inl rfl) rfl rfl (by decide) rfl ⟨rfl, Nat.le_of_ble_eq_true rfl, Nat.le_of_ble_eq_true rfl⟩ rfl (jc.deep (c_Flows_stateOf hC_M9 (by omega) (fun r10 z10  => ?_)) (by decide))
          refine jr.aload_n rfl rfl ?_
          obtain ⟨v11, e11⟩ : ∃ z_, M 0 8 = z_ := ⟨_, rfl⟩
          have b11 : (-2147483648) ≤ v11 ∧ v11 ≤ 2147483647 := by rw [← e11]; exact (CI.r hC_M (show kd 0 = 35 from rfl) (by decide) 8)
          have e12 : M8 0 8 = v11 := (hf_M8.g (show kd 0 = 35 from rfl) rfl).trans e11
          have e13 : M9 0 8 = v11 := (hf_M9.g (show kd 0 = 35 from rfl) rfl).trans e12
          refine jr.getf (i := 8) (x := v11) (v := .int (Int32.ofInt (v11))) rfl rfl (by decide) rfl (by decide) rfl rfl e13 rfl ?_
          have e15 : M8 421 4 = v1 := (hf_M8.g (show kd 421 = 22 from rfl) rfl).trans e1
          have e16 : M9 421 4 = v1 := (hf_M9.g (show kd 421 = 22 from rfl) rfl).trans e15
          refine jr_v rfl rfl (Or.inl rfl) rfl rfl (by decide) rfl ⟨rfl, Nat.le_of_ble_eq_true rfl, Nat.le_of_ble_eq_true rfl⟩ rfl (jc.deep (c_Machine_judge hC_M9 (FR.rfl _ M9) (show kd 3 = 18 from rfl) (by omega) (by omega) (by omega) (by have hq0 : M9 421 4 = v1 := e16; omega) (LC.fr (LC.fr p1 hf_M8 rfl) hf_M9 rfl) (by omega) (PC.fr (PC.fr p3 hC_M hf_M8 rfl) hC_M8 hf_M9 rfl) (fun r14 M14 hC_M14 hf_M14 z14 w14_0 w14_1 => ?_)) (by decide))
          have ht_M14 : FR W_c_PacketWall_verdict_o T M14 := FR.t ht_M9 hf_M14 (kw_sub rfl)
          obtain ⟨v17, e17⟩ : ∃ z_, M14 421 4 = z_ := ⟨_, rfl⟩
          have b17 : 0 ≤ v17 ∧ v17 ≤ 1 := by rw [← e17]; exact (CI.r hC_M14 (show kd 421 = 22 from rfl) (by decide) 4)
          have b18 : 0 ≤ v17 ∧ v17 ≤ 0 := by rw [← e17]; exact w14_1
          exact jr.ireturn rfl rfl rfl (q _ _ hC_M14 ht_M14 (by omega) (LC.le w14_0 (by omega)) (by have hq0 : M14 421 4 = v17 := e17; omega) (by rw [p4]; exact OL.t (OL.f hf_M8 rfl) (OL.t w9_0 (OL.f hf_M14 rfl))))
        · have sx33 : (1 : Int) ≤ r6 := by omega
          refine jr.bipush rfl (by decide) ?_
          exact jr.ireturn rfl rfl rfl (q _ _ hC_M ht_M (by omega) (LC.le p1 (by omega)) (by have hq0 : M 421 4 = v1 := e1; omega) (fun b k _ _ => by rw [p4]))
    · refine jr.bipush rfl (by decide) ?_
      exact jr.ireturn rfl rfl rfl (q _ _ hC_M ht_M (by omega) (LC.le p1 (by omega)) (by have hq0 : M 421 4 = v1 := e1; omega) (fun b k _ _ => by rw [p4]))
noncomputable def W_c_PacketWall_rules_o : List (Nat × Nat) := [(22, 2), (35, 1), (44, 0), (44, 1), (44, 2), (44, 3), (44, 4), (44, 6), (44, 7), (44, 8), (44, 9), (44, 10), (44, 11), (45, 1000), (47, 2), (47, 3), (47, 4), (48, 1000), (49, 1000), (50, 1000), (51, 1000)]
theorem c_PacketWall_rules_o_L22 {A : Nat → Option (Nat × (Nat → Int32))} [HA A] {Q : Option Value → jm → Prop} {T : jm} {G : Nat → Int → Int} (q : ∀ (r : Int) (M' : jm), CI M' → FR W_c_PacketWall_rules_o T M' → (-2147483648) ≤ r ∧ r ≤ 2147483647 → (PC M' ) → (M' 413 2 ≠ M' 421 2) → (M' 0 1 = 0) → Q (some (.int (Int32.ofInt r))) M') : ∀ (nM : Nat) (M : jm) (i : Int), CI M → FR W_c_PacketWall_rules_o T M → 0 ≤ i ∧ i ≤ 17 → (1 ≤ M 413 3 ∧ M 413 3 ≤ 1) → (MP M G) → (PG G) → (M 0 1 = 0) → 17 - i ≤ nM → jr A 361 xm_26 22 [(1, .int (Int32.ofInt (i))), (0, .ref (0))] [] M Q := by
  intro nM
  induction nM using Nat.strongRecOn with
  | ind nM ih =>
    intro M i hC_M ht_M h_i hy0 hy1 hy2 hy3 hm
    obtain ⟨v1, e1⟩ : ∃ z_, M 413 3 = z_ := ⟨_, rfl⟩
    have b1 : 1 ≤ v1 ∧ v1 ≤ 419 := by rw [← e1]; exact (CI.r hC_M (show kd 413 = 44 from rfl) (by decide) 3)
    have b2 : 1 ≤ v1 ∧ v1 ≤ 1 := by rw [← e1]; exact hy0
    obtain ⟨v3, e3⟩ : ∃ z_, M 0 1 = z_ := ⟨_, rfl⟩
    have b3 : 0 ≤ v3 ∧ v3 ≤ 1600 := by rw [← e3]; exact (CI.r hC_M (show kd 0 = 35 from rfl) (by decide) 1)
    refine jr.iload_n rfl rfl ?_
    refine jr.bipush rfl (by decide) ?_
    refine jr.icmp_gt rfl rfl (by omega) (by omega) (fun h25 => ?_) (fun h25 => ?_)
    · refine jr.aload_n rfl rfl ?_
      refine jr.getf (i := 10) (v := .ref 413) rfl rfl (by decide) rfl (by decide) rfl rfl rfl rfl ?_
      refine jr_v rfl rfl (Or.inl rfl) rfl rfl (by decide) rfl ⟨rfl, Nat.le_of_ble_eq_true rfl, Nat.le_of_ble_eq_true rfl⟩ rfl (jc.deep (c_Parser_resolveJumps hC_M (FR.rfl _ M)  (by have hq0 : M 413 3 = v1 := e1; omega) hy1 (fun M4 hC_M4 hf_M4 w4_0 w4_1 => ?_)) (by decide))
      have ht_M4 : FR W_c_PacketWall_rules_o T M4 := FR.t ht_M hf_M4 (kw_sub rfl)
      refine jr.aload_n rfl rfl ?_
      refine jr.getf (i := 10) (v := .ref 413) rfl rfl (by decide) rfl (by decide) rfl rfl rfl rfl ?_
      obtain ⟨v5, e5⟩ : ∃ z_, M4 413 0 = z_ := ⟨_, rfl⟩
      have b5 : (-2147483648) ≤ v5 ∧ v5 ≤ 2147483647 := by rw [← e5]; exact (CI.r hC_M4 (show kd 413 = 44 from rfl) (by decide) 0)
      refine jr.getf (i := 0) (x := v5) (v := .int (Int32.ofInt (v5))) rfl rfl (by decide) rfl (by decide) rfl rfl e5 rfl ?_
      refine jr.if_eq rfl rfl (by omega) (fun h66 => ?_) (fun h66 => ?_)
      · refine jr.aload_n rfl rfl ?_
        refine jr.getf (i := 11) (v := .ref 421) rfl rfl (by decide) rfl (by decide) rfl rfl rfl rfl ?_
        obtain ⟨v6, e6⟩ : ∃ z_, M 421 2 = z_ := ⟨_, rfl⟩
        have b6 : 0 ≤ v6 ∧ v6 ≤ 597 := by rw [← e6]; exact (CI.r hC_M (show kd 421 = 22 from rfl) (by decide) 2)
        have e7 : M4 421 2 = v6 := (hf_M4.g (show kd 421 = 22 from rfl) rfl).trans e6
        have k8 : kd (v6).toNat = 47 := ((congrArg (fun z : Int => kd z.toNat) (show M4 421 2 = v6 from e7)).symm.trans (CI.x hC_M4 (show kd 421 = 22 from rfl) 2 rfl (by decide)))
        refine jr.getf (i := 2) (x := v6) (v := .ref (v6.toNat)) rfl rfl (by decide) rfl (by decide) rfl rfl e7 rfl ?_
        refine jr.astore_n rfl (by decide) rfl ?_
        refine jr.aload_n rfl rfl ?_
        refine jr.getf (i := 11) (v := .ref 421) rfl rfl (by decide) rfl (by decide) rfl rfl rfl rfl ?_
        refine jr.aload_n rfl rfl ?_
        refine jr.getf (i := 10) (v := .ref 413) rfl rfl (by decide) rfl (by decide) rfl rfl rfl rfl ?_
        obtain ⟨v9, e9⟩ : ∃ z_, M 413 2 = z_ := ⟨_, rfl⟩
        have b9 : 0 ≤ v9 ∧ v9 ≤ 597 := by rw [← e9]; exact (CI.r hC_M (show kd 413 = 44 from rfl) (by decide) 2)
        have e10 : M4 413 2 = v9 := (hf_M4.g (show kd 413 = 44 from rfl) rfl).trans e9
        have k11 : kd (v9).toNat = 47 := ((congrArg (fun z : Int => kd z.toNat) (show M4 413 2 = v9 from e10)).symm.trans (CI.x hC_M4 (show kd 413 = 44 from rfl) 2 rfl (by decide)))
        refine jr.getf (i := 2) (x := v9) (v := .ref (v9.toNat)) rfl rfl (by decide) rfl (by decide) rfl rfl e10 rfl ?_
        refine jr.putf (i := 2) (x := v9) rfl rfl (by decide) rfl (by decide) rfl rfl rfl rfl rfl ?_
        refine jr.aload_n rfl rfl ?_
        refine jr.getf (i := 10) (v := .ref 413) rfl rfl (by decide) rfl (by decide) rfl rfl rfl rfl ?_
        refine jr.aload_n rfl rfl ?_
        refine jr.putf (i := 2) (x := v6) rfl rfl (by decide) rfl (by decide) rfl rfl rfl rfl rfl ?_
        refine jr.aload_n rfl rfl ?_
        refine jr.getf (i := 11) (v := .ref 421) rfl rfl (by decide) rfl (by decide) rfl rfl rfl rfl ?_
        have k12 : kd (v9).toNat = 47 := ((congrArg (fun z : Int => kd z.toNat) (show (ju (ju M4 421 2 v9) 413 2 v6) 421 2 = v9 from ((ju_c _ _ (by decide)).trans (ju_same _ _ _ _)))).symm.trans (CI.x (CI.w (v := v6) (CI.w (v := v9) hC_M4 (i := 2) (show kd 421 = 22 from rfl) (show (0 : Int) ≤ _ ∧ _ ≤ (597 : Int) from by have hk := kd_lt (a := (v9).toNat) (by rw [k11]; decide); omega) k11) (i := 2) (show kd 413 = 44 from rfl) (show (0 : Int) ≤ _ ∧ _ ≤ (597 : Int) from by have hk := kd_lt (a := (v6).toNat) (by rw [k8]; decide); omega) k8) (show kd 421 = 22 from rfl) 2 rfl (by decide)))
        refine jr.getf (i := 2) (x := v9) (v := .ref (v9.toNat)) rfl rfl (by decide) rfl (by decide) rfl rfl ((ju_c _ _ (by decide)).trans (ju_same _ _ _ _)) rfl ?_
        obtain ⟨v13, e13⟩ : ∃ z_, M ((v9.toNat)) 3 = z_ := ⟨_, rfl⟩
        have b13 : 0 ≤ v13 ∧ v13 ≤ 16 := by rw [← e13]; exact (CI.r hC_M k12 (by decide) 3)
        have e14 : M4 ((v9.toNat)) 3 = v13 := (hf_M4.g k12 rfl).trans e13
        refine jr.getf (i := 3) (x := v13) (v := .int (Int32.ofInt (v13))) rfl rfl (Nat.lt_trans (kx_47 k12).1 (by decide)) (kx_47 k12).2 (by decide) rfl rfl ((ju_i _ _ (by decide)).trans ((ju_i _ _ (by decide)).trans e14)) rfl ?_
        have e15 : M4 0 1 = v3 := (hf_M4.g (show kd 0 = 35 from rfl) rfl).trans e3
        exact jr.ireturn rfl rfl rfl (q _ _ (CI.w (v := v6) (CI.w (v := v9) hC_M4 (i := 2) (show kd 421 = 22 from rfl) (show (0 : Int) ≤ _ ∧ _ ≤ (597 : Int) from by have hk := kd_lt (a := (v9).toNat) (by rw [k11]; decide); omega) k11) (i := 2) (show kd 413 = 44 from rfl) (show (0 : Int) ≤ _ ∧ _ ≤ (597 : Int) from by have hk := kd_lt (a := (v6).toNat) (by rw [k8]; decide); omega) k8) (FR.o (FR.o ht_M4 (show kd 421 = 22 from rfl) rfl) (show kd 413 = 44 from rfl) rfl) (by omega) (PC.sw w4_1 hC_M4 (by have hq : M4 413 0 = v5 := e5; omega) e10) (by have hne := w4_0.1; have h1 : M4 413 2 = v9 := e10; have h2 : M4 421 2 = v6 := e7; have h3 : (ju (ju M4 421 2 v9) 413 2 v6) 413 2 = v6 := (ju_same _ _ _ _); have h4 : (ju (ju M4 421 2 v9) 413 2 v6) 421 2 = v9 := ((ju_c _ _ (by decide)).trans (ju_same _ _ _ _)); omega) (by have hq : (ju (ju M4 421 2 v9) 413 2 v6) 0 1 = v3 := ((ju_c _ _ (by decide)).trans ((ju_c _ _ (by decide)).trans e15)); omega))
      · refine jr.bipush rfl (by decide) ?_
        refine jr.aload_n rfl rfl ?_
        refine jr.getf (i := 10) (v := .ref 413) rfl rfl (by decide) rfl (by decide) rfl rfl rfl rfl ?_
        refine jr.getf (i := 0) (x := v5) (v := .int (Int32.ofInt (v5))) rfl rfl (by decide) rfl (by decide) rfl rfl e5 rfl ?_
        refine jr.isub rfl ?_
        refine jr.iw (j_w ((-10) - v5)) (j_w_eq _) ?_
        have b16 : -2147483648 ≤ j_w ((-10) - v5) ∧ j_w ((-10) - v5) ≤ 2147483647 := jb_any _
        generalize j_w ((-10) - v5) = v16 at b16 ⊢
        have e17 : M4 0 1 = v3 := (hf_M4.g (show kd 0 = 35 from rfl) rfl).trans e3
        exact jr.ireturn rfl rfl rfl (q _ _ hC_M4 ht_M4 (by omega) (PC.g w4_0 hy2) w4_0.1 (by have hq : M4 0 1 = v3 := e17; omega))
    · refine jr.aload_n rfl rfl ?_
      refine jr.getf (i := 10) (v := .ref 413) rfl rfl (by decide) rfl (by decide) rfl rfl rfl rfl ?_
      refine jr.iload_n rfl rfl ?_
      refine jr_v rfl rfl (Or.inl rfl) rfl rfl (by decide) rfl ⟨rfl, Nat.le_of_ble_eq_true rfl, Nat.le_of_ble_eq_true rfl⟩ rfl (jc.deep (c_Parser_hasMore hC_M (by omega) (fun r18 z18  => ?_)) (by decide))
      refine jr.if_eq rfl rfl (by omega) (fun h36 => ?_) (fun h36 => ?_)
      · refine jr.aload_n rfl rfl ?_
        refine jr.getf (i := 10) (v := .ref 413) rfl rfl (by decide) rfl (by decide) rfl rfl rfl rfl ?_
        refine jr_v rfl rfl (Or.inl rfl) rfl rfl (by decide) rfl ⟨rfl, Nat.le_of_ble_eq_true rfl, Nat.le_of_ble_eq_true rfl⟩ rfl (jc.deep (c_Parser_resolveJumps hC_M (FR.rfl _ M)  (by have hq0 : M 413 3 = v1 := e1; omega) hy1 (fun M19 hC_M19 hf_M19 w19_0 w19_1 => ?_)) (by decide))
        have ht_M19 : FR W_c_PacketWall_rules_o T M19 := FR.t ht_M hf_M19 (kw_sub rfl)
        refine jr.aload_n rfl rfl ?_
        refine jr.getf (i := 10) (v := .ref 413) rfl rfl (by decide) rfl (by decide) rfl rfl rfl rfl ?_
        obtain ⟨v20, e20⟩ : ∃ z_, M19 413 0 = z_ := ⟨_, rfl⟩
        have b20 : (-2147483648) ≤ v20 ∧ v20 ≤ 2147483647 := by rw [← e20]; exact (CI.r hC_M19 (show kd 413 = 44 from rfl) (by decide) 0)
        refine jr.getf (i := 0) (x := v20) (v := .int (Int32.ofInt (v20))) rfl rfl (by decide) rfl (by decide) rfl rfl e20 rfl ?_
        refine jr.if_eq rfl rfl (by omega) (fun h66 => ?_) (fun h66 => ?_)
        · refine jr.aload_n rfl rfl ?_
          refine jr.getf (i := 11) (v := .ref 421) rfl rfl (by decide) rfl (by decide) rfl rfl rfl rfl ?_
          obtain ⟨v21, e21⟩ : ∃ z_, M 421 2 = z_ := ⟨_, rfl⟩
          have b21 : 0 ≤ v21 ∧ v21 ≤ 597 := by rw [← e21]; exact (CI.r hC_M (show kd 421 = 22 from rfl) (by decide) 2)
          have e22 : M19 421 2 = v21 := (hf_M19.g (show kd 421 = 22 from rfl) rfl).trans e21
          have k23 : kd (v21).toNat = 47 := ((congrArg (fun z : Int => kd z.toNat) (show M19 421 2 = v21 from e22)).symm.trans (CI.x hC_M19 (show kd 421 = 22 from rfl) 2 rfl (by decide)))
          refine jr.getf (i := 2) (x := v21) (v := .ref (v21.toNat)) rfl rfl (by decide) rfl (by decide) rfl rfl e22 rfl ?_
          refine jr.astore_n rfl (by decide) rfl ?_
          refine jr.aload_n rfl rfl ?_
          refine jr.getf (i := 11) (v := .ref 421) rfl rfl (by decide) rfl (by decide) rfl rfl rfl rfl ?_
          refine jr.aload_n rfl rfl ?_
          refine jr.getf (i := 10) (v := .ref 413) rfl rfl (by decide) rfl (by decide) rfl rfl rfl rfl ?_
          obtain ⟨v24, e24⟩ : ∃ z_, M 413 2 = z_ := ⟨_, rfl⟩
          have b24 : 0 ≤ v24 ∧ v24 ≤ 597 := by rw [← e24]; exact (CI.r hC_M (show kd 413 = 44 from rfl) (by decide) 2)
          have e25 : M19 413 2 = v24 := (hf_M19.g (show kd 413 = 44 from rfl) rfl).trans e24
          have k26 : kd (v24).toNat = 47 := ((congrArg (fun z : Int => kd z.toNat) (show M19 413 2 = v24 from e25)).symm.trans (CI.x hC_M19 (show kd 413 = 44 from rfl) 2 rfl (by decide)))
          refine jr.getf (i := 2) (x := v24) (v := .ref (v24.toNat)) rfl rfl (by decide) rfl (by decide) rfl rfl e25 rfl ?_
          refine jr.putf (i := 2) (x := v24) rfl rfl (by decide) rfl (by decide) rfl rfl rfl rfl rfl ?_
          refine jr.aload_n rfl rfl ?_
          refine jr.getf (i := 10) (v := .ref 413) rfl rfl (by decide) rfl (by decide) rfl rfl rfl rfl ?_
          refine jr.aload_n rfl rfl ?_
          refine jr.putf (i := 2) (x := v21) rfl rfl (by decide) rfl (by decide) rfl rfl rfl rfl rfl ?_
          refine jr.aload_n rfl rfl ?_
          refine jr.getf (i := 11) (v := .ref 421) rfl rfl (by decide) rfl (by decide) rfl rfl rfl rfl ?_
          have k27 : kd (v24).toNat = 47 := ((congrArg (fun z : Int => kd z.toNat) (show (ju (ju M19 421 2 v24) 413 2 v21) 421 2 = v24 from ((ju_c _ _ (by decide)).trans (ju_same _ _ _ _)))).symm.trans (CI.x (CI.w (v := v21) (CI.w (v := v24) hC_M19 (i := 2) (show kd 421 = 22 from rfl) (show (0 : Int) ≤ _ ∧ _ ≤ (597 : Int) from by have hk := kd_lt (a := (v24).toNat) (by rw [k26]; decide); omega) k26) (i := 2) (show kd 413 = 44 from rfl) (show (0 : Int) ≤ _ ∧ _ ≤ (597 : Int) from by have hk := kd_lt (a := (v21).toNat) (by rw [k23]; decide); omega) k23) (show kd 421 = 22 from rfl) 2 rfl (by decide)))
          refine jr.getf (i := 2) (x := v24) (v := .ref (v24.toNat)) rfl rfl (by decide) rfl (by decide) rfl rfl ((ju_c _ _ (by decide)).trans (ju_same _ _ _ _)) rfl ?_
          obtain ⟨v28, e28⟩ : ∃ z_, M ((v24.toNat)) 3 = z_ := ⟨_, rfl⟩
          have b28 : 0 ≤ v28 ∧ v28 ≤ 16 := by rw [← e28]; exact (CI.r hC_M k27 (by decide) 3)
          have e29 : M19 ((v24.toNat)) 3 = v28 := (hf_M19.g k27 rfl).trans e28
          refine jr.getf (i := 3) (x := v28) (v := .int (Int32.ofInt (v28))) rfl rfl (Nat.lt_trans (kx_47 k27).1 (by decide)) (kx_47 k27).2 (by decide) rfl rfl ((ju_i _ _ (by decide)).trans ((ju_i _ _ (by decide)).trans e29)) rfl ?_
          have e30 : M19 0 1 = v3 := (hf_M19.g (show kd 0 = 35 from rfl) rfl).trans e3
          exact jr.ireturn rfl rfl rfl (q _ _ (CI.w (v := v21) (CI.w (v := v24) hC_M19 (i := 2) (show kd 421 = 22 from rfl) (show (0 : Int) ≤ _ ∧ _ ≤ (597 : Int) from by have hk := kd_lt (a := (v24).toNat) (by rw [k26]; decide); omega) k26) (i := 2) (show kd 413 = 44 from rfl) (show (0 : Int) ≤ _ ∧ _ ≤ (597 : Int) from by have hk := kd_lt (a := (v21).toNat) (by rw [k23]; decide); omega) k23) (FR.o (FR.o ht_M19 (show kd 421 = 22 from rfl) rfl) (show kd 413 = 44 from rfl) rfl) (by omega) (PC.sw w19_1 hC_M19 (by have hq : M19 413 0 = v20 := e20; omega) e25) (by have hne := w19_0.1; have h1 : M19 413 2 = v24 := e25; have h2 : M19 421 2 = v21 := e22; have h3 : (ju (ju M19 421 2 v24) 413 2 v21) 413 2 = v21 := (ju_same _ _ _ _); have h4 : (ju (ju M19 421 2 v24) 413 2 v21) 421 2 = v24 := ((ju_c _ _ (by decide)).trans (ju_same _ _ _ _)); omega) (by have hq : (ju (ju M19 421 2 v24) 413 2 v21) 0 1 = v3 := ((ju_c _ _ (by decide)).trans ((ju_c _ _ (by decide)).trans e30)); omega))
        · refine jr.bipush rfl (by decide) ?_
          refine jr.aload_n rfl rfl ?_
          refine jr.getf (i := 10) (v := .ref 413) rfl rfl (by decide) rfl (by decide) rfl rfl rfl rfl ?_
          refine jr.getf (i := 0) (x := v20) (v := .int (Int32.ofInt (v20))) rfl rfl (by decide) rfl (by decide) rfl rfl e20 rfl ?_
          refine jr.isub rfl ?_
          refine jr.iw (j_w ((-10) - v20)) (j_w_eq _) ?_
          have b31 : -2147483648 ≤ j_w ((-10) - v20) ∧ j_w ((-10) - v20) ≤ 2147483647 := jb_any _
          generalize j_w ((-10) - v20) = v31 at b31 ⊢
          have e32 : M19 0 1 = v3 := (hf_M19.g (show kd 0 = 35 from rfl) rfl).trans e3
          exact jr.ireturn rfl rfl rfl (q _ _ hC_M19 ht_M19 (by omega) (PC.g w19_0 hy2) w19_0.1 (by have hq : M19 0 1 = v3 := e32; omega))
      · have sx36 : (1 : Int) ≤ r18 := by omega
        refine jr.aload_n rfl rfl ?_
        refine jr.getf (i := 10) (v := .ref 413) rfl rfl (by decide) rfl (by decide) rfl rfl rfl rfl ?_
        refine jr_v rfl rfl (Or.inl rfl) rfl rfl (by decide) rfl ⟨rfl, Nat.le_of_ble_eq_true rfl, Nat.le_of_ble_eq_true rfl⟩ rfl (jc.deep (c_Parser_chain hC_M (FR.rfl _ M)  (by have hq0 : M 413 3 = v1 := e1; omega) hy1 (fun M33 hC_M33 hf_M33 w33_0 => ?_)) (by decide))
        have ht_M33 : FR W_c_PacketWall_rules_o T M33 := FR.t ht_M hf_M33 (kw_sub rfl)
        refine jr.iinc rfl rfl (by decide) rfl ?_
        refine jr.goto rfl rfl ?_
        have e34 : M33 413 3 = v1 := (hf_M33.g (show kd 413 = 44 from rfl) rfl).trans e1
        have e35 : M33 0 1 = v3 := (hf_M33.g (show kd 0 = 35 from rfl) rfl).trans e3
        refine jr.pick [0, 1] rfl rfl ?_
        exact ih (nM - 1) (by omega) M33 (i + 1) hC_M33 ht_M33 (by omega) (by have hq0 : M33 413 3 = v1 := e34; omega) w33_0 hy2 (by have hq0 : M33 0 1 = v3 := e35; omega) (by omega)
theorem c_PacketWall_rules_o {A : Nat → Option (Nat × (Nat → Int32))} [HA A] {Q : Option Value → jm → Prop} {T : jm} {M : jm} (hC_M : CI M) (ht_M : FR W_c_PacketWall_rules_o T M) (p0 : PC M ) (p1 : M 413 2 ≠ M 421 2) (q : ∀ (r : Int) (M' : jm), CI M' → FR W_c_PacketWall_rules_o T M' → (-2147483648) ≤ r ∧ r ≤ 2147483647 → (PC M' ) → (M' 413 2 ≠ M' 421 2) → (M' 0 1 = 0) → Q (some (.int (Int32.ofInt r))) M') : jc A 362 26 [.ref (0)] M Q := by
  refine jc_of (m := xm_26) rfl (Nat.le_of_ble_eq_true rfl) rfl ?_
  obtain ⟨v1, e1⟩ : ∃ z_, M 413 2 = z_ := ⟨_, rfl⟩
  have b1 : 0 ≤ v1 ∧ v1 ≤ 597 := by rw [← e1]; exact (CI.r hC_M (show kd 413 = 44 from rfl) (by decide) 2)
  obtain ⟨v2, e2⟩ : ∃ z_, M 421 2 = z_ := ⟨_, rfl⟩
  have b2 : 0 ≤ v2 ∧ v2 ≤ 597 := by rw [← e2]; exact (CI.r hC_M (show kd 421 = 22 from rfl) (by decide) 2)
  have hG : MP M (fun d k => M ((M 421 2).toNat + d) k) := ⟨p1, fun _ _ _ => rfl⟩
  refine jr.aload_n rfl rfl ?_
  refine jr.getf (i := 10) (v := .ref 413) rfl rfl (by decide) rfl (by decide) rfl rfl rfl rfl ?_
  refine jr.aload_n rfl rfl ?_
  refine jr.getf (i := 0) (v := .ref 1) rfl rfl (by decide) rfl (by decide) rfl rfl rfl rfl ?_
  refine jr.aload_n rfl rfl ?_
  obtain ⟨v3, e3⟩ : ∃ z_, M 0 1 = z_ := ⟨_, rfl⟩
  have b3 : 0 ≤ v3 ∧ v3 ≤ 1600 := by rw [← e3]; exact (CI.r hC_M (show kd 0 = 35 from rfl) (by decide) 1)
  refine jr.getf (i := 1) (x := v3) (v := .int (Int32.ofInt (v3))) rfl rfl (by decide) rfl (by decide) rfl rfl e3 rfl ?_
  refine jr_v rfl rfl (Or.inl rfl) rfl rfl (by decide) rfl ⟨rfl, Nat.le_of_ble_eq_true rfl, Nat.le_of_ble_eq_true rfl⟩ rfl (jc.deep (c_Parser_begin hC_M (FR.rfl _ M) (by omega) hG (fun M4 hC_M4 hf_M4 w4_0 w4_1 => ?_)) (by decide))
  have ht_M4 : FR W_c_PacketWall_rules_o T M4 := FR.t ht_M hf_M4 (kw_sub rfl)
  obtain ⟨v5, e5⟩ : ∃ z_, M4 413 3 = z_ := ⟨_, rfl⟩
  have b5 : 1 ≤ v5 ∧ v5 ≤ 419 := by rw [← e5]; exact (CI.r hC_M4 (show kd 413 = 44 from rfl) (by decide) 3)
  have b6 : 1 ≤ v5 ∧ v5 ≤ 1 := by rw [← e5]; exact w4_1
  refine jr.aload_n rfl rfl ?_
  refine jr.iconst rfl ?_
  refine jr.putf (i := 1) (x := 0) rfl rfl (by decide) rfl (by decide) rfl rfl rfl rfl rfl ?_
  refine jr.iconst rfl ?_
  refine jr.istore_n rfl (by decide) rfl ?_
  refine jr.pick [0, 1] rfl rfl ?_
  exact c_PacketWall_rules_o_L22  q 17 ((ju M4 0 1 0)) 0 (CI.u hC_M4 (i := 1) (show kd 0 = 35 from rfl) (show (0 : Int) ≤ _ ∧ _ ≤ (1600 : Int) from by omega) rfl) (FR.o ht_M4 (show kd 0 = 35 from rfl) rfl) (by omega) (by have hq0 : (ju M4 0 1 0) 413 3 = v5 := ((ju_c _ _ (by decide)).trans e5); omega) (MP.n w4_0 hC_M4 (show kd 0 = 35 from rfl) (by decide) (Or.inl (by decide))) (PG.o p0) (by have hq0 : (ju M4 0 1 0) 0 1 = 0 := (ju_same _ _ _ _); omega) (by omega)
end
section
/-! ===== the reference: calls that leave the data alone ===== -/
theorem r_wrong_x {A : Nat → Option (Nat × (Nat → Int32))} {Q : Option Value → jm → Prop} {M : jm} (hI_M : RI M) (hH_M : RH M) (hS_M : RF M) (q : ∀ (r : Int) (M' : jm), RI M' → RH M' → RF M' → (-1) ≤ r ∧ r ≤ 1600 → (∀ (a : Nat) (i : Int), a ≠ 603 → M' a i = M a i) → Q (some (.int (Int32.ofInt r))) M') : jc A 1 372 [.ref (598)] M Q := by
  refine jc_of (m := xm_372) rfl (Nat.le_of_ble_eq_true rfl) rfl ?_
  refine jr.aload_n rfl rfl ?_
  obtain ⟨v1, e1⟩ : ∃ z, M 598 81 = z := ⟨_, rfl⟩
  have b1 : (-1) ≤ v1 ∧ v1 ≤ 1600 := by rw [← e1]; exact hI_M 598 81 (by decide)
  refine jr.getf (i := 81) (x := v1) (v := .int (Int32.ofInt (v1))) rfl rfl (by decide) rfl (by decide) rfl rfl e1 rfl ?_
  exact jr.ireturn rfl rfl rfl (q _ _ hI_M hH_M hS_M  (by omega) (fun a i f603 => rfl))
theorem r_why_x {A : Nat → Option (Nat × (Nat → Int32))} {Q : Option Value → jm → Prop} {M : jm} (hI_M : RI M) (hH_M : RH M) (hS_M : RF M) {w : Int} (h_w : (-2147483648) ≤ w ∧ w ≤ 2147483647) (q : ∀ (r : Int) (M' : jm), RI M' → RH M' → RF M' → (-2147483648) ≤ r ∧ r ≤ 2147483647 → (∀ (a : Nat) (i : Int), a ≠ 603 → M' a i = M a i) → Q (some (.int (Int32.ofInt r))) M') : jc A 2 402 [.ref (598), .int (Int32.ofInt (w))] M Q := by
  refine jc_of (m := xm_402) rfl (Nat.le_of_ble_eq_true rfl) rfl ?_
  refine jr.aload_n rfl rfl ?_
  obtain ⟨v1, e1⟩ : ∃ z, M 598 140 = z := ⟨_, rfl⟩
  have b1 : 0 ≤ v1 ∧ v1 ≤ 1 := by rw [← e1]; exact hI_M 598 140 (by decide)
  refine jr.getf (i := 140) (x := v1) (v := .int (Int32.ofInt (v1))) rfl rfl (by decide) rfl (by decide) rfl rfl e1 rfl ?_
  refine jr.if_ne rfl rfl (by omega) (fun h4 => ?_) (fun h4 => ?_)
  · have sx4 : (1 : Int) ≤ v1 := by omega
    refine jr.iload_n rfl rfl ?_
    rcases (show w = 0 ∨ w = 1 ∨ w = 2 ∨ w = 3 ∨ w = 4 ∨ (w ≠ 0 ∧ w ≠ 1 ∧ w ≠ 2 ∧ w ≠ 3 ∧ w ≠ 4) by omega) with h10 | h10 | h10 | h10 | h10 | h10
    · refine jr.tsw_k 0 rfl h10 rfl ?_
      refine jr.aload_n rfl rfl ?_
      obtain ⟨v2, e2⟩ : ∃ z, M 598 141 = z := ⟨_, rfl⟩
      have b2 : 0 ≤ v2 ∧ v2 ≤ 8 := by rw [← e2]; exact hI_M 598 141 (by decide)
      refine jr.getf (i := 141) (x := v2) (v := .int (Int32.ofInt (v2))) rfl rfl (by decide) rfl (by decide) rfl rfl e2 rfl ?_
      exact jr.ireturn rfl rfl rfl (q _ _ hI_M hH_M hS_M  (by omega) (fun a i f603 => rfl))
    · refine jr.tsw_k 1 rfl h10 rfl ?_
      refine jr.aload_n rfl rfl ?_
      obtain ⟨v3, e3⟩ : ∃ z, M 598 142 = z := ⟨_, rfl⟩
      have b3 : (-9223372036854775808) ≤ v3 ∧ v3 ≤ 9223372036854775807 := by rw [← e3]; exact hI_M 598 142 (by decide)
      refine jr.getf (i := 142) (x := v3) (v := .long (Int64.ofInt (v3))) rfl rfl (by decide) rfl (by decide) rfl rfl e3 rfl ?_
      refine jr.l2i rfl ?_
      refine jr.iw (j_w v3) (j_w_eq _) ?_
      have b4 : -2147483648 ≤ j_w v3 ∧ j_w v3 ≤ 2147483647 := jb_any _
      generalize j_w v3 = v4 at b4 ⊢
      exact jr.ireturn rfl rfl rfl (q _ _ hI_M hH_M hS_M  (by omega) (fun a i f603 => rfl))
    · refine jr.tsw_k 2 rfl h10 rfl ?_
      refine jr.aload_n rfl rfl ?_
      obtain ⟨v5, e5⟩ : ∃ z, M 598 143 = z := ⟨_, rfl⟩
      have b5 : 0 ≤ v5 ∧ v5 ≤ 300 := by rw [← e5]; exact hI_M 598 143 (by decide)
      refine jr.getf (i := 143) (x := v5) (v := .int (Int32.ofInt (v5))) rfl rfl (by decide) rfl (by decide) rfl rfl e5 rfl ?_
      exact jr.ireturn rfl rfl rfl (q _ _ hI_M hH_M hS_M  (by omega) (fun a i f603 => rfl))
    · refine jr.tsw_k 3 rfl h10 rfl ?_
      refine jr.aload_n rfl rfl ?_
      obtain ⟨v6, e6⟩ : ∃ z, M 598 144 = z := ⟨_, rfl⟩
      have b6 : (-1) ≤ v6 ∧ v6 ≤ 15 := by rw [← e6]; exact hI_M 598 144 (by decide)
      refine jr.getf (i := 144) (x := v6) (v := .int (Int32.ofInt (v6))) rfl rfl (by decide) rfl (by decide) rfl rfl e6 rfl ?_
      exact jr.ireturn rfl rfl rfl (q _ _ hI_M hH_M hS_M  (by omega) (fun a i f603 => rfl))
    · refine jr.tsw_k 4 rfl h10 rfl ?_
      refine jr.aload_n rfl rfl ?_
      obtain ⟨v7, e7⟩ : ∃ z, M 598 145 = z := ⟨_, rfl⟩
      have b7 : 0 ≤ v7 ∧ v7 ≤ 40 := by rw [← e7]; exact hI_M 598 145 (by decide)
      refine jr.getf (i := 145) (x := v7) (v := .int (Int32.ofInt (v7))) rfl rfl (by decide) rfl (by decide) rfl rfl e7 rfl ?_
      exact jr.ireturn rfl rfl rfl (q _ _ hI_M hH_M hS_M  (by omega) (fun a i f603 => rfl))
    · refine jr.tsw_d rfl (by omega) (by omega) rfl ?_
      refine jr.iload_n rfl rfl ?_
      refine jr.i2l rfl (by omega) ?_
      refine jr.ldc2 (x := 10) rfl rfl (by decide) ?_
      refine jr.bipush rfl (by decide) ?_
      refine jr.aload_n rfl rfl ?_
      obtain ⟨v8, e8⟩ : ∃ z, M 598 145 = z := ⟨_, rfl⟩
      have b8 : 0 ≤ v8 ∧ v8 ≤ 40 := by rw [← e8]; exact hI_M 598 145 (by decide)
      refine jr.getf (i := 145) (x := v8) (v := .int (Int32.ofInt (v8))) rfl rfl (by decide) rfl (by decide) rfl rfl e8 rfl ?_
      refine jr.iadd rfl ?_
      refine jr.i2l rfl (by omega) ?_
      refine jr_s rfl rfl (Or.inl rfl) ⟨Nat.le_of_ble_eq_true rfl, Nat.le_of_ble_eq_true rfl⟩ rfl rfl (jc.deep (c_within (by omega) (by omega) (by omega) (fun l83 u83 => ?_) (fun n83 => ?_)) (by decide))
      · refine jr.if_eq rfl rfl (by omega) (fun h => absurd h (by decide)) (fun _ => ?_)
        refine jr.aload_n rfl rfl ?_
        refine jr.getf (i := 146) (v := .ref 687) rfl rfl (by decide) rfl (by decide) rfl rfl rfl rfl ?_
        refine jr.iload_n rfl rfl ?_
        refine jr.bipush rfl (by decide) ?_
        refine jr.isub rfl ?_
        obtain ⟨v9, e9⟩ : ∃ z, M 687 (w - 10) = z := ⟨_, rfl⟩
        have b9 : 0 ≤ v9 ∧ v9 ≤ 1600 := by rw [← e9]; exact (by have q := hI_M 687 (w - 10) (by decide); rw [xri_row rfl rfl] at q; exact q)
        refine jr.iald (i := (w - 10)) (x := v9) rfl (by decide) rfl (by decide) (by omega) (by omega) e9 ?_
        refine jr.goto rfl rfl ?_
        exact jr.ireturn rfl rfl rfl (q _ _ hI_M hH_M hS_M  (by omega) (fun a i f603 => rfl))
      · refine jr.if_eq rfl rfl (by omega) (fun _ => ?_) (fun h => absurd (by decide) h)
        refine jr.iconst rfl ?_
        exact jr.ireturn rfl rfl rfl (q _ _ hI_M hH_M hS_M  (by omega) (fun a i f603 => rfl))
  · refine jr.iconst rfl ?_
    exact jr.ireturn rfl rfl rfl (q _ _ hI_M hH_M hS_M  (by omega) (fun a i f603 => rfl))
theorem r_counter_x {A : Nat → Option (Nat × (Nat → Int32))} {Q : Option Value → jm → Prop} {M : jm} (hI_M : RI M) (hH_M : RH M) (hS_M : RF M) {k : Int} (h_k : (-2147483648) ≤ k ∧ k ≤ 2147483647) (q : ∀ (r : Int) (M' : jm), RI M' → RH M' → RF M' → (-9223372036854775808) ≤ r ∧ r ≤ 9223372036854775807 → (∀ (a : Nat) (i : Int), a ≠ 603 → M' a i = M a i) → Q (some (.long (Int64.ofInt r))) M') : jc A 2 403 [.ref (598), .int (Int32.ofInt (k))] M Q := by
  refine jc_of (m := xm_403) rfl (Nat.le_of_ble_eq_true rfl) rfl ?_
  refine jr.iload_n rfl rfl ?_
  refine jr.i2l rfl (by omega) ?_
  refine jr.lconst (x := 0) rfl (by decide) ?_
  refine jr.ldc2 (x := 7) rfl rfl (by decide) ?_
  refine jr_s rfl rfl (Or.inl rfl) ⟨Nat.le_of_ble_eq_true rfl, Nat.le_of_ble_eq_true rfl⟩ rfl rfl (jc.deep (c_within (by omega) (by omega) (by omega) (fun l6 u6 => ?_) (fun n6 => ?_)) (by decide))
  · refine jr.if_eq rfl rfl (by omega) (fun h => absurd h (by decide)) (fun _ => ?_)
    refine jr.aload_n rfl rfl ?_
    refine jr.getf (i := 114) (v := .ref 671) rfl rfl (by decide) rfl (by decide) rfl rfl rfl rfl ?_
    refine jr.iload_n rfl rfl ?_
    obtain ⟨v1, e1⟩ : ∃ z, M 671 k = z := ⟨_, rfl⟩
    have b1 : (-9223372036854775808) ≤ v1 ∧ v1 ≤ 9223372036854775807 := by rw [← e1]; exact (by have q := hI_M 671 k (by decide); rw [xri_row rfl rfl] at q; exact q)
    refine jr.lald (i := k) (x := v1) rfl (by decide) rfl (by decide) (by omega) (by omega) e1 ?_
    refine jr.goto rfl rfl ?_
    exact jr.lreturn rfl rfl (q _ _ hI_M hH_M hS_M  (by omega) (fun a i f603 => rfl))
  · refine jr.if_eq rfl rfl (by omega) (fun _ => ?_) (fun h => absurd (by decide) h)
    refine jr.ldc2 (x := (-1)) rfl rfl (by decide) ?_
    exact jr.lreturn rfl rfl (q _ _ hI_M hH_M hS_M  (by omega) (fun a i f603 => rfl))
theorem r_logged_x {A : Nat → Option (Nat × (Nat → Int32))} {Q : Option Value → jm → Prop} {M : jm} (hI_M : RI M) (hH_M : RH M) (hS_M : RF M) {i : Int} (h_i : (-2147483648) ≤ i ∧ i ≤ 2147483647) (q : ∀ (r : Int) (M' : jm), RI M' → RH M' → RF M' → (-9223372036854775808) ≤ r ∧ r ≤ 9223372036854775807 → (∀ (a : Nat) (i : Int), a ≠ 603 → M' a i = M a i) → Q (some (.long (Int64.ofInt r))) M') : jc A 2 404 [.ref (598), .int (Int32.ofInt (i))] M Q := by
  refine jc_of (m := xm_404) rfl (Nat.le_of_ble_eq_true rfl) rfl ?_
  refine jr.aload_n rfl rfl ?_
  obtain ⟨v1, e1⟩ : ∃ z, M 598 112 = z := ⟨_, rfl⟩
  have b1 : 0 ≤ v1 ∧ v1 ≤ 2147483647 := by rw [← e1]; exact hI_M 598 112 (by decide)
  refine jr.getf (i := 112) (x := v1) (v := .int (Int32.ofInt (v1))) rfl rfl (by decide) rfl (by decide) rfl rfl e1 rfl ?_
  refine jr.bipush rfl (by decide) ?_
  refine jr.icmp_ge rfl rfl (by omega) (by omega) (fun h6 => ?_) (fun h6 => ?_)
  · refine jr.bipush rfl (by decide) ?_
    refine jr.istore_n rfl (by decide) rfl ?_
    refine jr.iload_n rfl rfl ?_
    refine jr.i2l rfl (by omega) ?_
    refine jr.lconst (x := 0) rfl (by decide) ?_
    refine jr.iload_n rfl rfl ?_
    refine jr.iconst rfl ?_
    refine jr.isub rfl ?_
    refine jr.i2l rfl (by omega) ?_
    refine jr_s rfl rfl (Or.inl rfl) ⟨Nat.le_of_ble_eq_true rfl, Nat.le_of_ble_eq_true rfl⟩ rfl rfl (jc.deep (c_within (by omega) (by omega) (by omega) (fun l26 u26 => ?_) (fun n26 => ?_)) (by decide))
    · refine jr.if_eq rfl rfl (by omega) (fun h => absurd h (by decide)) (fun _ => ?_)
      refine jr.aload_n rfl rfl ?_
      refine jr.getf (i := 113) (v := .ref 670) rfl rfl (by decide) rfl (by decide) rfl rfl rfl rfl ?_
      refine jr.aload_n rfl rfl ?_
      refine jr.getf (i := 112) (x := v1) (v := .int (Int32.ofInt (v1))) rfl rfl (by decide) rfl (by decide) rfl rfl e1 rfl ?_
      refine jr.iconst rfl ?_
      refine jr.isub rfl ?_
      refine jr.iload_n rfl rfl ?_
      refine jr.isub rfl ?_
      refine jr.bipush rfl (by decide) ?_
      refine jr.irem rfl (by decide) ?_
      have b2 : j_rem ((v1 - 1) - i) 20 = ((v1 - 1) - i) % 20 := j_rem_ex (by omega) (by omega)
      generalize j_rem ((v1 - 1) - i) 20 = v2 at b2 ⊢
      obtain ⟨v3, e3⟩ : ∃ z, M 670 v2 = z := ⟨_, rfl⟩
      have b3 : (-9223372036854775808) ≤ v3 ∧ v3 ≤ 9223372036854775807 := by rw [← e3]; exact (by have q := hI_M 670 v2 (by decide); rw [xri_row rfl rfl] at q; exact q)
      refine jr.lald (i := v2) (x := v3) rfl (by decide) rfl (by decide) (by omega) (by omega) e3 ?_
      refine jr.goto rfl rfl ?_
      exact jr.lreturn rfl rfl (q _ _ hI_M hH_M hS_M  (by omega) (fun a i f603 => rfl))
    · refine jr.if_eq rfl rfl (by omega) (fun _ => ?_) (fun h => absurd (by decide) h)
      refine jr.ldc2 (x := (-1)) rfl rfl (by decide) ?_
      exact jr.lreturn rfl rfl (q _ _ hI_M hH_M hS_M  (by omega) (fun a i f603 => rfl))
  · refine jr.aload_n rfl rfl ?_
    refine jr.getf (i := 112) (x := v1) (v := .int (Int32.ofInt (v1))) rfl rfl (by decide) rfl (by decide) rfl rfl e1 rfl ?_
    refine jr.goto rfl rfl ?_
    refine jr.istore_n rfl (by decide) rfl ?_
    refine jr.iload_n rfl rfl ?_
    refine jr.i2l rfl (by omega) ?_
    refine jr.lconst (x := 0) rfl (by decide) ?_
    refine jr.iload_n rfl rfl ?_
    refine jr.iconst rfl ?_
    refine jr.isub rfl ?_
    refine jr.i2l rfl (by omega) ?_
    refine jr_s rfl rfl (Or.inl rfl) ⟨Nat.le_of_ble_eq_true rfl, Nat.le_of_ble_eq_true rfl⟩ rfl rfl (jc.deep (c_within (by omega) (by omega) (by omega) (fun l26 u26 => ?_) (fun n26 => ?_)) (by decide))
    · refine jr.if_eq rfl rfl (by omega) (fun h => absurd h (by decide)) (fun _ => ?_)
      refine jr.aload_n rfl rfl ?_
      refine jr.getf (i := 113) (v := .ref 670) rfl rfl (by decide) rfl (by decide) rfl rfl rfl rfl ?_
      refine jr.aload_n rfl rfl ?_
      refine jr.getf (i := 112) (x := v1) (v := .int (Int32.ofInt (v1))) rfl rfl (by decide) rfl (by decide) rfl rfl e1 rfl ?_
      refine jr.iconst rfl ?_
      refine jr.isub rfl ?_
      refine jr.iload_n rfl rfl ?_
      refine jr.isub rfl ?_
      refine jr.bipush rfl (by decide) ?_
      refine jr.irem rfl (by decide) ?_
      have b4 : j_rem ((v1 - 1) - i) 20 = ((v1 - 1) - i) % 20 := j_rem_ex (by omega) (by omega)
      generalize j_rem ((v1 - 1) - i) 20 = v4 at b4 ⊢
      obtain ⟨v5, e5⟩ : ∃ z, M 670 v4 = z := ⟨_, rfl⟩
      have b5 : (-9223372036854775808) ≤ v5 ∧ v5 ≤ 9223372036854775807 := by rw [← e5]; exact (by have q := hI_M 670 v4 (by decide); rw [xri_row rfl rfl] at q; exact q)
      refine jr.lald (i := v4) (x := v5) rfl (by decide) rfl (by decide) (by omega) (by omega) e5 ?_
      refine jr.goto rfl rfl ?_
      exact jr.lreturn rfl rfl (q _ _ hI_M hH_M hS_M  (by omega) (fun a i f603 => rfl))
    · refine jr.if_eq rfl rfl (by omega) (fun _ => ?_) (fun h => absurd (by decide) h)
      refine jr.ldc2 (x := (-1)) rfl rfl (by decide) ?_
      exact jr.lreturn rfl rfl (q _ _ hI_M hH_M hS_M  (by omega) (fun a i f603 => rfl))
theorem r_learned_x {A : Nat → Option (Nat × (Nat → Int32))} {Q : Option Value → jm → Prop} {M : jm} (hI_M : RI M) (hH_M : RH M) (hS_M : RF M) {k : Int} (h_k : (-2147483648) ≤ k ∧ k ≤ 2147483647) {i : Int} (h_i : (-2147483648) ≤ i ∧ i ≤ 2147483647) (q : ∀ (r : Int) (M' : jm), RI M' → RH M' → RF M' → (-9223372036854775808) ≤ r ∧ r ≤ 9223372036854775807 → (∀ (a : Nat) (i : Int), a ≠ 603 → M' a i = M a i) → Q (some (.long (Int64.ofInt r))) M') : jc A 2 405 [.ref (598), .int (Int32.ofInt (k)), .int (Int32.ofInt (i))] M Q := by
  refine jc_of (m := xm_405) rfl (Nat.le_of_ble_eq_true rfl) rfl ?_
  refine jr.iload_n rfl rfl ?_
  refine jr.i2l rfl (by omega) ?_
  refine jr.lconst (x := 0) rfl (by decide) ?_
  refine jr.ldc2 (x := 3) rfl rfl (by decide) ?_
  refine jr_s rfl rfl (Or.inl rfl) ⟨Nat.le_of_ble_eq_true rfl, Nat.le_of_ble_eq_true rfl⟩ rfl rfl (jc.deep (c_within (by omega) (by omega) (by omega) (fun l6 u6 => ?_) (fun n6 => ?_)) (by decide))
  · refine jr.if_ne rfl rfl (by omega) (fun _ => ?_) (fun h => absurd (by decide) h)
    refine jr.iload_n rfl rfl ?_
    refine jr.iconst rfl ?_
    refine jr.icmp_ne rfl rfl (by omega) (by omega) (fun h18 => ?_) (fun h18 => ?_)
    · refine jr.iload_n rfl rfl ?_
      refine jr.i2l rfl (by omega) ?_
      refine jr.lconst (x := 0) rfl (by decide) ?_
      refine jr.aload_n rfl rfl ?_
      refine jr.getf (i := 115) (v := .ref 672) rfl rfl (by decide) rfl (by decide) rfl rfl rfl rfl ?_
      refine jr.iload_n rfl rfl ?_
      obtain ⟨v1, e1⟩ : ∃ z, M 672 k = z := ⟨_, rfl⟩
      have b1 : 0 ≤ v1 ∧ v1 ≤ 16 := by rw [← e1]; exact (by have q := hI_M 672 k (by decide); rw [xri_row rfl rfl] at q; exact q)
      refine jr.iald (i := k) (x := v1) rfl (by decide) rfl (by decide) (by omega) (by omega) e1 ?_
      refine jr.iconst rfl ?_
      refine jr.isub rfl ?_
      refine jr.i2l rfl (by omega) ?_
      refine jr_s rfl rfl (Or.inl rfl) ⟨Nat.le_of_ble_eq_true rfl, Nat.le_of_ble_eq_true rfl⟩ rfl rfl (jc.deep (c_within (by omega) (by omega) (by omega) (fun l43 u43 => ?_) (fun n43 => ?_)) (by decide))
      · refine jr.if_eq rfl rfl (by omega) (fun h => absurd h (by decide)) (fun _ => ?_)
        refine jr.aload_n rfl rfl ?_
        refine jr.getf (i := 116) (v := .ref 673) rfl rfl (by decide) rfl (by decide) rfl rfl rfl rfl ?_
        refine jr.bipush rfl (by decide) ?_
        refine jr.iload_n rfl rfl ?_
        refine jr.imul rfl ?_
        refine jr.iload_n rfl rfl ?_
        refine jr.iadd rfl ?_
        obtain ⟨v2, e2⟩ : ∃ z, M 673 ((16 * k) + i) = z := ⟨_, rfl⟩
        have b2 : (-9223372036854775808) ≤ v2 ∧ v2 ≤ 9223372036854775807 := by rw [← e2]; exact (by have q := hI_M 673 ((16 * k) + i) (by decide); rw [xri_row rfl rfl] at q; exact q)
        refine jr.lald (i := ((16 * k) + i)) (x := v2) rfl (by decide) rfl (by decide) (by omega) (by omega) e2 ?_
        refine jr.goto rfl rfl ?_
        exact jr.lreturn rfl rfl (q _ _ hI_M hH_M hS_M  (by omega) (fun a i f603 => rfl))
      · refine jr.if_eq rfl rfl (by omega) (fun _ => ?_) (fun h => absurd (by decide) h)
        refine jr.ldc2 (x := (-1)) rfl rfl (by decide) ?_
        exact jr.lreturn rfl rfl (q _ _ hI_M hH_M hS_M  (by omega) (fun a i f603 => rfl))
    · refine jr.aload_n rfl rfl ?_
      refine jr.getf (i := 115) (v := .ref 672) rfl rfl (by decide) rfl (by decide) rfl rfl rfl rfl ?_
      refine jr.iload_n rfl rfl ?_
      obtain ⟨v3, e3⟩ : ∃ z, M 672 k = z := ⟨_, rfl⟩
      have b3 : 0 ≤ v3 ∧ v3 ≤ 16 := by rw [← e3]; exact (by have q := hI_M 672 k (by decide); rw [xri_row rfl rfl] at q; exact q)
      refine jr.iald (i := k) (x := v3) rfl (by decide) rfl (by decide) (by omega) (by omega) e3 ?_
      refine jr.i2l rfl (by omega) ?_
      refine jr.goto rfl rfl ?_
      exact jr.lreturn rfl rfl (q _ _ hI_M hH_M hS_M  (by omega) (fun a i f603 => rfl))
  · refine jr.if_ne rfl rfl (by omega) (fun h => absurd h (by decide)) (fun _ => ?_)
    refine jr.ldc2 (x := (-1)) rfl rfl (by decide) ?_
    exact jr.lreturn rfl rfl (q _ _ hI_M hH_M hS_M  (by omega) (fun a i f603 => rfl))
theorem r_rowAt_x {A : Nat → Option (Nat × (Nat → Int32))} {Q : Option Value → jm → Prop} {M : jm} (hI_M : RI M) (hH_M : RH M) (hS_M : RF M) {k : Int} (h_k : (-2147483648) ≤ k ∧ k ≤ 2147483647) {i : Int} (h_i : (-2147483648) ≤ i ∧ i ≤ 2147483647) (q : ∀ (r : Int) (M' : jm), RI M' → RH M' → RF M' → (-9223372036854775808) ≤ r ∧ r ≤ 9223372036854775807 → (∀ (a : Nat) (i : Int), a ≠ 603 → M' a i = M a i) → Q (some (.long (Int64.ofInt r))) M') : jc A 2 406 [.ref (598), .int (Int32.ofInt (k)), .int (Int32.ofInt (i))] M Q := by
  refine jc_of (m := xm_406) rfl (Nat.le_of_ble_eq_true rfl) rfl ?_
  refine jr.iload_n rfl rfl ?_
  refine jr.i2l rfl (by omega) ?_
  refine jr.lconst (x := 0) rfl (by decide) ?_
  refine jr.ldc2 (x := 7) rfl rfl (by decide) ?_
  refine jr_s rfl rfl (Or.inl rfl) ⟨Nat.le_of_ble_eq_true rfl, Nat.le_of_ble_eq_true rfl⟩ rfl rfl (jc.deep (c_within (by omega) (by omega) (by omega) (fun l6 u6 => ?_) (fun n6 => ?_)) (by decide))
  · refine jr.if_ne rfl rfl (by omega) (fun _ => ?_) (fun h => absurd (by decide) h)
    refine jr.iload_n rfl rfl ?_
    refine jr.iconst rfl ?_
    refine jr.icmp_ne rfl rfl (by omega) (by omega) (fun h18 => ?_) (fun h18 => ?_)
    · refine jr.aload_n rfl rfl ?_
      refine jr.getf (i := 117) (v := .ref 674) rfl rfl (by decide) rfl (by decide) rfl rfl rfl rfl ?_
      refine jr.iload_n rfl rfl ?_
      obtain ⟨v1, e1⟩ : ∃ z, M 674 k = z := ⟨_, rfl⟩
      have b1 : (-1) ≤ v1 ∧ v1 ≤ 6 := by rw [← e1]; exact (by have q := hI_M 674 k (by decide); rw [xri_row rfl rfl] at q; exact q)
      refine jr.iald (i := k) (x := v1) rfl (by decide) rfl (by decide) (by omega) (by omega) e1 ?_
      refine jr.iconst rfl ?_
      refine jr.icmp_eq rfl rfl (by omega) (by omega) (fun h36 => ?_) (fun h36 => ?_)
      · refine jr.ldc2 (x := (-1)) rfl rfl (by decide) ?_
        exact jr.lreturn rfl rfl (q _ _ hI_M hH_M hS_M  (by omega) (fun a i f603 => rfl))
      · have sx36 : (0 : Int) ≤ v1 := by omega
        refine jr.iload_n rfl rfl ?_
        refine jr.i2l rfl (by omega) ?_
        refine jr.lconst (x := 0) rfl (by decide) ?_
        refine jr.aload_n rfl rfl ?_
        refine jr.getf (i := 118) (v := .ref 675) rfl rfl (by decide) rfl (by decide) rfl rfl rfl rfl ?_
        refine jr.iload_n rfl rfl ?_
        obtain ⟨v2, e2⟩ : ∃ z, M 675 k = z := ⟨_, rfl⟩
        have b2 : 0 ≤ v2 ∧ v2 ≤ 40 := by rw [← e2]; exact (by have q := hI_M 675 k (by decide); rw [xri_row rfl rfl] at q; exact q)
        refine jr.iald (i := k) (x := v2) rfl (by decide) rfl (by decide) (by omega) (by omega) e2 ?_
        refine jr.iconst rfl ?_
        refine jr.isub rfl ?_
        refine jr.i2l rfl (by omega) ?_
        refine jr_s rfl rfl (Or.inl rfl) ⟨Nat.le_of_ble_eq_true rfl, Nat.le_of_ble_eq_true rfl⟩ rfl rfl (jc.deep (c_within (by omega) (by omega) (by omega) (fun l51 u51 => ?_) (fun n51 => ?_)) (by decide))
        · refine jr.if_ne rfl rfl (by omega) (fun _ => ?_) (fun h => absurd (by decide) h)
          refine jr.aload_n rfl rfl ?_
          refine jr.getf (i := 117) (v := .ref 674) rfl rfl (by decide) rfl (by decide) rfl rfl rfl rfl ?_
          refine jr.iload_n rfl rfl ?_
          refine jr.iald (i := k) (x := v1) rfl (by decide) rfl (by decide) (by omega) (by omega) e1 ?_
          refine jr.iconst rfl ?_
          refine jr.icmp_le rfl rfl (by omega) (by omega) (fun h68 => ?_) (fun h68 => ?_)
          · refine jr.aload_n rfl rfl ?_
            refine jr.getf (i := 119) (v := .ref 676) rfl rfl (by decide) rfl (by decide) rfl rfl rfl rfl ?_
            refine jr.bipush rfl (by decide) ?_
            refine jr.iload_n rfl rfl ?_
            refine jr.imul rfl ?_
            refine jr.iload_n rfl rfl ?_
            refine jr.iadd rfl ?_
            obtain ⟨v3, e3⟩ : ∃ z, M 676 ((40 * k) + i) = z := ⟨_, rfl⟩
            have b3 : (-9223372036854775808) ≤ v3 ∧ v3 ≤ 9223372036854775807 := by rw [← e3]; exact (by have q := hI_M 676 ((40 * k) + i) (by decide); rw [xri_row rfl rfl] at q; exact q)
            refine jr.lald (i := ((40 * k) + i)) (x := v3) rfl (by decide) rfl (by decide) (by omega) (by omega) e3 ?_
            exact jr.lreturn rfl rfl (q _ _ hI_M hH_M hS_M  (by omega) (fun a i f603 => rfl))
          · refine jr.aload_n rfl rfl ?_
            refine jr.getf (i := 120) (v := .ref 677) rfl rfl (by decide) rfl (by decide) rfl rfl rfl rfl ?_
            refine jr.bipush rfl (by decide) ?_
            refine jr.iload_n rfl rfl ?_
            refine jr.imul rfl ?_
            refine jr.iload_n rfl rfl ?_
            refine jr.iadd rfl ?_
            obtain ⟨v4, e4⟩ : ∃ z, M 677 ((40 * k) + i) = z := ⟨_, rfl⟩
            have b4 : (-1) ≤ v4 ∧ v4 ≤ 11 := by rw [← e4]; exact (by have q := hI_M 677 ((40 * k) + i) (by decide); rw [xri_row rfl rfl] at q; exact q)
            refine jr.iald (i := ((40 * k) + i)) (x := v4) rfl (by decide) rfl (by decide) (by omega) (by omega) e4 ?_
            refine jr.i2l rfl (by omega) ?_
            refine jr.goto rfl rfl ?_
            exact jr.lreturn rfl rfl (q _ _ hI_M hH_M hS_M  (by omega) (fun a i f603 => rfl))
        · refine jr.if_ne rfl rfl (by omega) (fun h => absurd h (by decide)) (fun _ => ?_)
          refine jr.ldc2 (x := (-1)) rfl rfl (by decide) ?_
          exact jr.lreturn rfl rfl (q _ _ hI_M hH_M hS_M  (by omega) (fun a i f603 => rfl))
    · refine jr.aload_n rfl rfl ?_
      refine jr.getf (i := 117) (v := .ref 674) rfl rfl (by decide) rfl (by decide) rfl rfl rfl rfl ?_
      refine jr.iload_n rfl rfl ?_
      obtain ⟨v5, e5⟩ : ∃ z, M 674 k = z := ⟨_, rfl⟩
      have b5 : (-1) ≤ v5 ∧ v5 ≤ 6 := by rw [← e5]; exact (by have q := hI_M 674 k (by decide); rw [xri_row rfl rfl] at q; exact q)
      refine jr.iald (i := k) (x := v5) rfl (by decide) rfl (by decide) (by omega) (by omega) e5 ?_
      refine jr.i2l rfl (by omega) ?_
      exact jr.lreturn rfl rfl (q _ _ hI_M hH_M hS_M  (by omega) (fun a i f603 => rfl))
  · refine jr.if_ne rfl rfl (by omega) (fun h => absurd h (by decide)) (fun _ => ?_)
    refine jr.ldc2 (x := (-3)) rfl rfl (by decide) ?_
    exact jr.lreturn rfl rfl (q _ _ hI_M hH_M hS_M  (by omega) (fun a i f603 => rfl))
theorem r_bucket_x {A : Nat → Option (Nat × (Nat → Int32))} {Q : Option Value → jm → Prop} {M : jm} (hI_M : RI M) (hH_M : RH M) (hS_M : RF M) {k : Int} (h_k : (-2147483648) ≤ k ∧ k ≤ 2147483647) {c : Int} (h_c : (-2147483648) ≤ c ∧ c ≤ 2147483647) {e : Int} (h_e : (-2147483648) ≤ e ∧ e ≤ 2147483647) (q : ∀ (r : Int) (M' : jm), RI M' → RH M' → RF M' → (-3) ≤ r ∧ r ≤ 1000 → (∀ (a : Nat) (i : Int), a ≠ 623 → a ≠ 624 → a ≠ 625 → a ≠ 626 → M' a i = M a i) → Q (some (.int (Int32.ofInt r))) M') : jc A 2 299 [.ref (598), .int (Int32.ofInt (k)), .int (Int32.ofInt (c)), .int (Int32.ofInt (e))] M Q := by
  refine jc_of (m := xm_299) rfl (Nat.le_of_ble_eq_true rfl) rfl ?_
  refine jr.iload_n rfl rfl ?_
  refine jr.i2l rfl (by omega) ?_
  refine jr.lconst (x := 0) rfl (by decide) ?_
  refine jr.ldc2 (x := 3) rfl rfl (by decide) ?_
  refine jr_s rfl rfl (Or.inl rfl) ⟨Nat.le_of_ble_eq_true rfl, Nat.le_of_ble_eq_true rfl⟩ rfl rfl (jc.deep (c_within (by omega) (by omega) (by omega) (fun l6 u6 => ?_) (fun n6 => ?_)) (by decide))
  · refine jr.if_eq rfl rfl (by omega) (fun h => absurd h (by decide)) (fun _ => ?_)
    refine jr.iload_n rfl rfl ?_
    refine jr.i2l rfl (by omega) ?_
    refine jr.lconst (x := 0) rfl (by decide) ?_
    refine jr.ldc2 (x := 1000) rfl rfl (by decide) ?_
    refine jr_s rfl rfl (Or.inl rfl) ⟨Nat.le_of_ble_eq_true rfl, Nat.le_of_ble_eq_true rfl⟩ rfl rfl (jc.deep (c_within (by omega) (by omega) (by omega) (fun l18 u18 => ?_) (fun n18 => ?_)) (by decide))
    · refine jr.if_eq rfl rfl (by omega) (fun h => absurd h (by decide)) (fun _ => ?_)
      refine jr.iload_n rfl rfl ?_
      refine jr.i2l rfl (by omega) ?_
      refine jr.lconst (x := 1) rfl (by decide) ?_
      refine jr.ldc2 (x := 1000) rfl rfl (by decide) ?_
      refine jr_s rfl rfl (Or.inl rfl) ⟨Nat.le_of_ble_eq_true rfl, Nat.le_of_ble_eq_true rfl⟩ rfl rfl (jc.deep (c_within (by omega) (by omega) (by omega) (fun l30 u30 => ?_) (fun n30 => ?_)) (by decide))
      · refine jr.if_ne rfl rfl (by omega) (fun _ => ?_) (fun h => absurd (by decide) h)
        refine jr.aload_n rfl rfl ?_
        refine jr.getf (i := 35) (v := .ref 623) rfl rfl (by decide) rfl (by decide) rfl rfl rfl rfl ?_
        refine jr.iload_n rfl rfl ?_
        refine jr.iload_n rfl rfl ?_
        refine jr.iast (i := k) (x := c) rfl (by decide) rfl (by decide) (by omega) (by omega) ?_
        refine jr.aload_n rfl rfl ?_
        refine jr.getf (i := 36) (v := .ref 624) rfl rfl (by decide) rfl (by decide) rfl rfl rfl rfl ?_
        refine jr.iload_n rfl rfl ?_
        refine jr.iload_n rfl rfl ?_
        refine jr.iast (i := k) (x := c) rfl (by decide) rfl (by decide) (by omega) (by omega) ?_
        refine jr.aload_n rfl rfl ?_
        refine jr.getf (i := 37) (v := .ref 625) rfl rfl (by decide) rfl (by decide) rfl rfl rfl rfl ?_
        refine jr.iload_n rfl rfl ?_
        refine jr.iload_n rfl rfl ?_
        refine jr.iast (i := k) (x := e) rfl (by decide) rfl (by decide) (by omega) (by omega) ?_
        refine jr.aload_n rfl rfl ?_
        refine jr.getf (i := 38) (v := .ref 626) rfl rfl (by decide) rfl (by decide) rfl rfl rfl rfl ?_
        refine jr.iload_n rfl rfl ?_
        refine jr.aload_n rfl rfl ?_
        obtain ⟨v1, e1⟩ : ∃ z, M 598 2 = z := ⟨_, rfl⟩
        have b1 : 0 ≤ v1 ∧ v1 ≤ 2000000 := by rw [← e1]; exact hI_M 598 2 (by decide)
        refine jr.getf (i := 2) (x := v1) (v := .int (Int32.ofInt (v1))) rfl rfl (by decide) rfl (by decide) rfl rfl ((ju_c _ _ (by decide)).trans ((ju_c _ _ (by decide)).trans ((ju_c _ _ (by decide)).trans e1))) rfl ?_
        refine jr.iast (i := k) (x := v1) rfl (by decide) rfl (by decide) (by omega) (by omega) ?_
        refine jr.iload_n rfl rfl ?_
        exact jr.ireturn rfl rfl rfl (q _ _ (RI.u (RI.u (RI.u (RI.u hI_M (a := 623) (i := k) (by rw [xri_row rfl rfl]; show (0 : Int) ≤ _ ∧ _ ≤ (1000 : Int); omega)) (a := 624) (i := k) (by rw [xri_row rfl rfl]; show (0 : Int) ≤ _ ∧ _ ≤ (1000 : Int); omega)) (a := 625) (i := k) (by rw [xri_row rfl rfl]; show (0 : Int) ≤ _ ∧ _ ≤ (1000 : Int); omega)) (a := 626) (i := k) (by rw [xri_row rfl rfl]; show (0 : Int) ≤ _ ∧ _ ≤ (2000000 : Int); omega)) (RH.o (RH.o (RH.o (RH.o hH_M (by decide) (by decide) (by decide)) (by decide) (by decide) (by decide)) (by decide) (by decide) (by decide)) (by decide) (by decide) (by decide)) (RF.o (RF.o (RF.o (RF.o hS_M (by decide) (by decide)) (by decide) (by decide)) (by decide) (by decide)) (by decide) (by decide))  (by omega) (fun a i f623 f624 f625 f626 => ((ju_c _ _ f626).trans ((ju_c _ _ f625).trans ((ju_c _ _ f624).trans ((ju_c _ _ f623).trans rfl))))))
      · refine jr.if_ne rfl rfl (by omega) (fun h => absurd h (by decide)) (fun _ => ?_)
        refine jr.bipush rfl (by decide) ?_
        exact jr.ireturn rfl rfl rfl (q _ _ hI_M hH_M hS_M  (by omega) (fun a i f623 f624 f625 f626 => rfl))
    · refine jr.if_eq rfl rfl (by omega) (fun _ => ?_) (fun h => absurd (by decide) h)
      refine jr.bipush rfl (by decide) ?_
      exact jr.ireturn rfl rfl rfl (q _ _ hI_M hH_M hS_M  (by omega) (fun a i f623 f624 f625 f626 => rfl))
  · refine jr.if_eq rfl rfl (by omega) (fun _ => ?_) (fun h => absurd (by decide) h)
    refine jr.bipush rfl (by decide) ?_
    exact jr.ireturn rfl rfl rfl (q _ _ hI_M hH_M hS_M  (by omega) (fun a i f623 f624 f625 f626 => rfl))
theorem r_has_x {A : Nat → Option (Nat × (Nat → Int32))} {Q : Option Value → jm → Prop} {M : jm} (hI_M : RI M) (hH_M : RH M) (hS_M : RF M) {k : Int} (h_k : (-2147483648) ≤ k ∧ k ≤ 2147483647) (q : ∀ (r : Int) (M' : jm), RI M' → RH M' → RF M' → (-3) ≤ r ∧ r ≤ 1000 → (∀ (a : Nat) (i : Int), a ≠ 603 → M' a i = M a i) → Q (some (.int (Int32.ofInt r))) M') : jc A 2 300 [.ref (598), .int (Int32.ofInt (k))] M Q := by
  refine jc_of (m := xm_300) rfl (Nat.le_of_ble_eq_true rfl) rfl ?_
  refine jr.iload_n rfl rfl ?_
  refine jr.i2l rfl (by omega) ?_
  refine jr.lconst (x := 0) rfl (by decide) ?_
  refine jr.ldc2 (x := 3) rfl rfl (by decide) ?_
  refine jr_s rfl rfl (Or.inl rfl) ⟨Nat.le_of_ble_eq_true rfl, Nat.le_of_ble_eq_true rfl⟩ rfl rfl (jc.deep (c_within (by omega) (by omega) (by omega) (fun l6 u6 => ?_) (fun n6 => ?_)) (by decide))
  · refine jr.if_eq rfl rfl (by omega) (fun h => absurd h (by decide)) (fun _ => ?_)
    refine jr.aload_n rfl rfl ?_
    refine jr.getf (i := 36) (v := .ref 624) rfl rfl (by decide) rfl (by decide) rfl rfl rfl rfl ?_
    refine jr.iload_n rfl rfl ?_
    obtain ⟨v1, e1⟩ : ∃ z, M 624 k = z := ⟨_, rfl⟩
    have b1 : 0 ≤ v1 ∧ v1 ≤ 1000 := by rw [← e1]; exact (by have q := hI_M 624 k (by decide); rw [xri_row rfl rfl] at q; exact q)
    refine jr.iald (i := k) (x := v1) rfl (by decide) rfl (by decide) (by omega) (by omega) e1 ?_
    refine jr.goto rfl rfl ?_
    exact jr.ireturn rfl rfl rfl (q _ _ hI_M hH_M hS_M  (by omega) (fun a i f603 => rfl))
  · refine jr.if_eq rfl rfl (by omega) (fun _ => ?_) (fun h => absurd (by decide) h)
    refine jr.bipush rfl (by decide) ?_
    exact jr.ireturn rfl rfl rfl (q _ _ hI_M hH_M hS_M  (by omega) (fun a i f603 => rfl))
theorem r_mark_335_x {A : Nat → Option (Nat × (Nat → Int32))} {Q : Option Value → jm → Prop} {M : jm} (hI_M : RI M) (hH_M : RH M) (hS_M : RF M) {x : Int} (h_x : (-2147483648) ≤ x ∧ x ≤ 2147483647) (q : ∀ (r : Int) (M' : jm), RI M' → RH M' → RF M' → (-9223372036854775808) ≤ r ∧ r ≤ 9223372036854775807 → (∀ (a : Nat) (i : Int), a ≠ 603 → M' a i = M a i) → Q (some (.long (Int64.ofInt r))) M') : jc A 4 335 [.ref (598), .int (Int32.ofInt (x))] M Q := by
  refine jc_of (m := xm_335) rfl (Nat.le_of_ble_eq_true rfl) rfl ?_
  refine jr.aload_n rfl rfl ?_
  refine jr.iload_n rfl rfl ?_
  refine jr_v rfl rfl (Or.inl rfl) rfl rfl (by decide) rfl ⟨rfl, Nat.le_of_ble_eq_true rfl, Nat.le_of_ble_eq_true rfl⟩ rfl (jc.deep (c_isThere hI_M (by omega) (fun l2 u2 t2 => ?_) (fun n2 => ?_)) (by decide))
  · refine jr.if_eq rfl rfl (by omega) (fun h => absurd h (by decide)) (fun _ => ?_)
    refine jr.aload_n rfl rfl ?_
    refine jr.getf (i := 5) (v := .ref 602) rfl rfl (by decide) rfl (by decide) rfl rfl rfl rfl ?_
    refine jr.iload_n rfl rfl ?_
    obtain ⟨v1, e1⟩ : ∃ z, M 602 x = z := ⟨_, rfl⟩
    have b1 : (-9223372036854775808) ≤ v1 ∧ v1 ≤ 9223372036854775807 := by rw [← e1]; exact (by have q := hI_M 602 x (by decide); rw [xri_row rfl rfl] at q; exact q)
    refine jr.lald (i := x) (x := v1) rfl (by decide) rfl (by decide) (by omega) (by omega) e1 ?_
    refine jr.goto rfl rfl ?_
    exact jr.lreturn rfl rfl (q _ _ hI_M hH_M hS_M  (by omega) (fun a i f603 => rfl))
  · refine jr.if_eq rfl rfl (by omega) (fun _ => ?_) (fun h => absurd (by decide) h)
    refine jr.lconst (x := 0) rfl (by decide) ?_
    exact jr.lreturn rfl rfl (q _ _ hI_M hH_M hS_M  (by omega) (fun a i f603 => rfl))
theorem r_told_L122_x {A : Nat → Option (Nat × (Nat → Int32))} {Q : Option Value → jm → Prop} {M0 : jm} (q : ∀ (r : Int) (M' : jm), RI M' → RH M' → RF M' → (-2147483648) ≤ r ∧ r ≤ 2147483647 → (∀ (a : Nat) (i : Int), a ≠ 603 → M' a i = M0 a i) → Q (some (.int (Int32.ofInt r))) M') : ∀ (nM : Nat) (M : jm) (k : Int) (c : Int) (w : Int), RI M → RH M → RF M → (∀ (a : Nat) (i : Int), a ≠ 603 → M a i = M0 a i) → 0 ≤ k ∧ k ≤ 24 → 0 ≤ c ∧ c ≤ 24 → (-2147483648) ≤ w ∧ w ≤ 2147483647 → c ≤ k → 24 - k ≤ nM → jr A 0 xm_336 122 [(3, .int (Int32.ofInt (k))), (2, .int (Int32.ofInt (c))), (1, .int (Int32.ofInt (w))), (0, .ref (598))] [] M Q := by
  intro nM
  induction nM using Nat.strongRecOn with
  | ind nM ih =>
    intro M k c w hI_M hH_M hS_M hF_M h_k h_c h_w hy0 hm
    refine jr.iload_n rfl rfl ?_
    refine jr.bipush rfl (by decide) ?_
    refine jr.icmp_ge rfl rfl (by omega) (by omega) (fun h125 => ?_) (fun h125 => ?_)
    · refine jr.iload_n rfl rfl ?_
      exact jr.ireturn rfl rfl rfl (q _ _ hI_M hH_M hS_M  (by omega) (fun a i f603 => (hF_M a i f603)))
    · refine jr.iload_n rfl rfl ?_
      refine jr.aload_n rfl rfl ?_
      refine jr.getf (i := 39) (v := .ref 627) rfl rfl (by decide) rfl (by decide) rfl rfl rfl rfl ?_
      refine jr.iload_n rfl rfl ?_
      obtain ⟨v1, e1⟩ : ∃ z, M 627 k = z := ⟨_, rfl⟩
      have b1 : 0 ≤ v1 ∧ v1 ≤ 1 := by rw [← e1]; exact (by have q := hI_M 627 k (by decide); rw [xri_row rfl rfl] at q; exact q)
      refine jr.zald (i := k) (x := v1) rfl (by decide) rfl (by decide) (by omega) (by omega) e1 ?_
      refine jr.if_eq rfl rfl (by omega) (fun h135 => ?_) (fun h135 => ?_)
      · refine jr.iconst rfl ?_
        refine jr.iadd rfl ?_
        refine jr.istore_n rfl (by decide) rfl ?_
        refine jr.iinc rfl rfl (by decide) rfl ?_
        refine jr.goto rfl rfl ?_
        refine jr.pick [0, 1, 2, 3] rfl rfl ?_
        exact ih (nM - 1) (by omega) M (k + 1) (c + 0) w hI_M hH_M hS_M  (fun a i f603 => (hF_M a i f603)) (by omega) (by omega) (by omega) (by omega) (by omega)
      · have sx135 : (1 : Int) ≤ v1 := by omega
        refine jr.iconst rfl ?_
        refine jr.goto rfl rfl ?_
        refine jr.iadd rfl ?_
        refine jr.istore_n rfl (by decide) rfl ?_
        refine jr.iinc rfl rfl (by decide) rfl ?_
        refine jr.goto rfl rfl ?_
        refine jr.pick [0, 1, 2, 3] rfl rfl ?_
        exact ih (nM - 1) (by omega) M (k + 1) (c + 1) w hI_M hH_M hS_M  (fun a i f603 => (hF_M a i f603)) (by omega) (by omega) (by omega) (by omega) (by omega)
theorem r_told_L89_x {A : Nat → Option (Nat × (Nat → Int32))} {Q : Option Value → jm → Prop} {M0 : jm} (q : ∀ (r : Int) (M' : jm), RI M' → RH M' → RF M' → (-2147483648) ≤ r ∧ r ≤ 2147483647 → (∀ (a : Nat) (i : Int), a ≠ 603 → M' a i = M0 a i) → Q (some (.int (Int32.ofInt r))) M') : ∀ (nM : Nat) (M : jm) (k : Int) (c : Int) (w : Int), RI M → RH M → RF M → (∀ (a : Nat) (i : Int), a ≠ 603 → M a i = M0 a i) → 0 ≤ k ∧ k ≤ 8 → 0 ≤ c ∧ c ≤ 24 → (-2147483648) ≤ w ∧ w ≤ 2147483647 → c ≤ k → 8 - k ≤ nM → jr A 0 xm_336 89 [(3, .int (Int32.ofInt (k))), (2, .int (Int32.ofInt (c))), (1, .int (Int32.ofInt (w))), (0, .ref (598))] [] M Q := by
  intro nM
  induction nM using Nat.strongRecOn with
  | ind nM ih =>
    intro M k c w hI_M hH_M hS_M hF_M h_k h_c h_w hy0 hm
    refine jr.iload_n rfl rfl ?_
    refine jr.bipush rfl (by decide) ?_
    refine jr.icmp_ge rfl rfl (by omega) (by omega) (fun h92 => ?_) (fun h92 => ?_)
    · refine jr.iload_n rfl rfl ?_
      exact jr.ireturn rfl rfl rfl (q _ _ hI_M hH_M hS_M  (by omega) (fun a i f603 => (hF_M a i f603)))
    · refine jr.iload_n rfl rfl ?_
      refine jr.aload_n rfl rfl ?_
      refine jr.getf (i := 17) (v := .ref 606) rfl rfl (by decide) rfl (by decide) rfl rfl rfl rfl ?_
      refine jr.iload_n rfl rfl ?_
      obtain ⟨v1, e1⟩ : ∃ z, M 606 k = z := ⟨_, rfl⟩
      have b1 : 0 ≤ v1 ∧ v1 ≤ 1 := by rw [← e1]; exact (by have q := hI_M 606 k (by decide); rw [xri_row rfl rfl] at q; exact q)
      refine jr.zald (i := k) (x := v1) rfl (by decide) rfl (by decide) (by omega) (by omega) e1 ?_
      refine jr.if_eq rfl rfl (by omega) (fun h102 => ?_) (fun h102 => ?_)
      · refine jr.iconst rfl ?_
        refine jr.iadd rfl ?_
        refine jr.istore_n rfl (by decide) rfl ?_
        refine jr.iinc rfl rfl (by decide) rfl ?_
        refine jr.goto rfl rfl ?_
        refine jr.pick [0, 1, 2, 3] rfl rfl ?_
        exact ih (nM - 1) (by omega) M (k + 1) (c + 0) w hI_M hH_M hS_M  (fun a i f603 => (hF_M a i f603)) (by omega) (by omega) (by omega) (by omega) (by omega)
      · have sx102 : (1 : Int) ≤ v1 := by omega
        refine jr.iconst rfl ?_
        refine jr.goto rfl rfl ?_
        refine jr.iadd rfl ?_
        refine jr.istore_n rfl (by decide) rfl ?_
        refine jr.iinc rfl rfl (by decide) rfl ?_
        refine jr.goto rfl rfl ?_
        refine jr.pick [0, 1, 2, 3] rfl rfl ?_
        exact ih (nM - 1) (by omega) M (k + 1) (c + 1) w hI_M hH_M hS_M  (fun a i f603 => (hF_M a i f603)) (by omega) (by omega) (by omega) (by omega) (by omega)
theorem r_told_L55_x {A : Nat → Option (Nat × (Nat → Int32))} {Q : Option Value → jm → Prop} {M0 : jm} (q : ∀ (r : Int) (M' : jm), RI M' → RH M' → RF M' → (-2147483648) ≤ r ∧ r ≤ 2147483647 → (∀ (a : Nat) (i : Int), a ≠ 603 → M' a i = M0 a i) → Q (some (.int (Int32.ofInt r))) M') : ∀ (nM : Nat) (M : jm) (k : Int) (c : Int) (w : Int), RI M → RH M → RF M → (∀ (a : Nat) (i : Int), a ≠ 603 → M a i = M0 a i) → 0 ≤ k ∧ k ≤ 24 → 0 ≤ c ∧ c ≤ 24 → (-2147483648) ≤ w ∧ w ≤ 2147483647 → c ≤ k → 24 - k ≤ nM → jr A 0 xm_336 55 [(3, .int (Int32.ofInt (k))), (2, .int (Int32.ofInt (c))), (1, .int (Int32.ofInt (w))), (0, .ref (598))] [] M Q := by
  intro nM
  induction nM using Nat.strongRecOn with
  | ind nM ih =>
    intro M k c w hI_M hH_M hS_M hF_M h_k h_c h_w hy0 hm
    refine jr.iload_n rfl rfl ?_
    refine jr.bipush rfl (by decide) ?_
    refine jr.icmp_ge rfl rfl (by omega) (by omega) (fun h58 => ?_) (fun h58 => ?_)
    · refine jr.iload_n rfl rfl ?_
      exact jr.ireturn rfl rfl rfl (q _ _ hI_M hH_M hS_M  (by omega) (fun a i f603 => (hF_M a i f603)))
    · refine jr.iload_n rfl rfl ?_
      refine jr.aload_n rfl rfl ?_
      refine jr.getf (i := 3) (v := .ref 600) rfl rfl (by decide) rfl (by decide) rfl rfl rfl rfl ?_
      refine jr.iload_n rfl rfl ?_
      obtain ⟨v1, e1⟩ : ∃ z, M 600 k = z := ⟨_, rfl⟩
      have b1 : (-1) ≤ v1 ∧ v1 ≤ 400 := by rw [← e1]; exact (by have q := hI_M 600 k (by decide); rw [xri_row rfl rfl] at q; exact q)
      refine jr.iald (i := k) (x := v1) rfl (by decide) rfl (by decide) (by omega) (by omega) e1 ?_
      refine jr.iconst rfl ?_
      refine jr.icmp_ne rfl rfl (by omega) (by omega) (fun h69 => ?_) (fun h69 => ?_)
      · have sx69 : (0 : Int) ≤ v1 := by omega
        refine jr.iconst rfl ?_
        refine jr.iadd rfl ?_
        refine jr.istore_n rfl (by decide) rfl ?_
        refine jr.iinc rfl rfl (by decide) rfl ?_
        refine jr.goto rfl rfl ?_
        refine jr.pick [0, 1, 2, 3] rfl rfl ?_
        exact ih (nM - 1) (by omega) M (k + 1) (c + 1) w hI_M hH_M hS_M  (fun a i f603 => (hF_M a i f603)) (by omega) (by omega) (by omega) (by omega) (by omega)
      · refine jr.iconst rfl ?_
        refine jr.goto rfl rfl ?_
        refine jr.iadd rfl ?_
        refine jr.istore_n rfl (by decide) rfl ?_
        refine jr.iinc rfl rfl (by decide) rfl ?_
        refine jr.goto rfl rfl ?_
        refine jr.pick [0, 1, 2, 3] rfl rfl ?_
        exact ih (nM - 1) (by omega) M (k + 1) (c + 0) w hI_M hH_M hS_M  (fun a i f603 => (hF_M a i f603)) (by omega) (by omega) (by omega) (by omega) (by omega)
theorem r_told_x {A : Nat → Option (Nat × (Nat → Int32))} {Q : Option Value → jm → Prop} {M : jm} (hI_M : RI M) (hH_M : RH M) (hS_M : RF M) {w : Int} (h_w : (-2147483648) ≤ w ∧ w ≤ 2147483647) (q : ∀ (r : Int) (M' : jm), RI M' → RH M' → RF M' → (-2147483648) ≤ r ∧ r ≤ 2147483647 → (∀ (a : Nat) (i : Int), a ≠ 603 → M' a i = M a i) → Q (some (.int (Int32.ofInt r))) M') : jc A 1 336 [.ref (598), .int (Int32.ofInt (w))] M Q := by
  refine jc_of (m := xm_336) rfl (Nat.le_of_ble_eq_true rfl) rfl ?_
  refine jr.iconst rfl ?_
  refine jr.istore_n rfl (by decide) rfl ?_
  refine jr.iload_n rfl rfl ?_
  rcases (show w = 0 ∨ w = 1 ∨ w = 2 ∨ w = 3 ∨ w = 4 ∨ w = 5 ∨ w = 6 ∨ w = 7 ∨ (w ≠ 0 ∧ w ≠ 1 ∧ w ≠ 2 ∧ w ≠ 3 ∧ w ≠ 4 ∧ w ≠ 5 ∧ w ≠ 6 ∧ w ≠ 7) by omega) with h3 | h3 | h3 | h3 | h3 | h3 | h3 | h3 | h3
  · refine jr.tsw_k 0 rfl h3 rfl ?_
    refine jr.aload_n rfl rfl ?_
    obtain ⟨v1, e1⟩ : ∃ z, M 598 2 = z := ⟨_, rfl⟩
    have b1 : 0 ≤ v1 ∧ v1 ≤ 2000000 := by rw [← e1]; exact hI_M 598 2 (by decide)
    refine jr.getf (i := 2) (x := v1) (v := .int (Int32.ofInt (v1))) rfl rfl (by decide) rfl (by decide) rfl rfl e1 rfl ?_
    exact jr.ireturn rfl rfl rfl (q _ _ hI_M hH_M hS_M  (by omega) (fun a i f603 => rfl))
  · refine jr.tsw_k 1 rfl h3 rfl ?_
    refine jr.iconst rfl ?_
    refine jr.istore_n rfl (by decide) rfl ?_
    refine jr.pick [0, 1, 3, 2] rfl rfl ?_
    exact r_told_L55_x q 24 M 0 0 w hI_M hH_M hS_M  (fun a i f603 => rfl) (by omega) (by omega) (by omega) (by omega) (by omega)
  · refine jr.tsw_k 2 rfl h3 rfl ?_
    refine jr.iconst rfl ?_
    refine jr.istore_n rfl (by decide) rfl ?_
    refine jr.pick [0, 1, 3, 2] rfl rfl ?_
    exact r_told_L89_x q 24 M 0 0 w hI_M hH_M hS_M  (fun a i f603 => rfl) (by omega) (by omega) (by omega) (by omega) (by omega)
  · refine jr.tsw_k 3 rfl h3 rfl ?_
    refine jr.iconst rfl ?_
    refine jr.istore_n rfl (by decide) rfl ?_
    refine jr.pick [0, 1, 3, 2] rfl rfl ?_
    exact r_told_L122_x q 24 M 0 0 w hI_M hH_M hS_M  (fun a i f603 => rfl) (by omega) (by omega) (by omega) (by omega) (by omega)
  · refine jr.tsw_k 4 rfl h3 rfl ?_
    refine jr.aload_n rfl rfl ?_
    obtain ⟨v2, e2⟩ : ∃ z, M 598 82 = z := ⟨_, rfl⟩
    have b2 : 0 ≤ v2 ∧ v2 ≤ 16 := by rw [← e2]; exact hI_M 598 82 (by decide)
    refine jr.getf (i := 82) (x := v2) (v := .int (Int32.ofInt (v2))) rfl rfl (by decide) rfl (by decide) rfl rfl e2 rfl ?_
    exact jr.ireturn rfl rfl rfl (q _ _ hI_M hH_M hS_M  (by omega) (fun a i f603 => rfl))
  · refine jr.tsw_k 5 rfl h3 rfl ?_
    refine jr.aload_n rfl rfl ?_
    obtain ⟨v3, e3⟩ : ∃ z, M 598 83 = z := ⟨_, rfl⟩
    have b3 : 0 ≤ v3 ∧ v3 ≤ 301 := by rw [← e3]; exact hI_M 598 83 (by decide)
    refine jr.getf (i := 83) (x := v3) (v := .int (Int32.ofInt (v3))) rfl rfl (by decide) rfl (by decide) rfl rfl e3 rfl ?_
    exact jr.ireturn rfl rfl rfl (q _ _ hI_M hH_M hS_M  (by omega) (fun a i f603 => rfl))
  · refine jr.tsw_k 6 rfl h3 rfl ?_
    refine jr.aload_n rfl rfl ?_
    obtain ⟨v4, e4⟩ : ∃ z, M 598 111 = z := ⟨_, rfl⟩
    have b4 : 0 ≤ v4 ∧ v4 ≤ 2000 := by rw [← e4]; exact hI_M 598 111 (by decide)
    refine jr.getf (i := 111) (x := v4) (v := .int (Int32.ofInt (v4))) rfl rfl (by decide) rfl (by decide) rfl rfl e4 rfl ?_
    exact jr.ireturn rfl rfl rfl (q _ _ hI_M hH_M hS_M  (by omega) (fun a i f603 => rfl))
  · refine jr.tsw_k 7 rfl h3 rfl ?_
    refine jr.aload_n rfl rfl ?_
    obtain ⟨v5, e5⟩ : ∃ z, M 598 1 = z := ⟨_, rfl⟩
    have b5 : 0 ≤ v5 ∧ v5 ≤ 1600 := by rw [← e5]; exact hI_M 598 1 (by decide)
    refine jr.getf (i := 1) (x := v5) (v := .int (Int32.ofInt (v5))) rfl rfl (by decide) rfl (by decide) rfl rfl e5 rfl ?_
    exact jr.ireturn rfl rfl rfl (q _ _ hI_M hH_M hS_M  (by omega) (fun a i f603 => rfl))
  · refine jr.tsw_d rfl (by omega) (by omega) rfl ?_
    refine jr.iload_n rfl rfl ?_
    refine jr.bipush rfl (by decide) ?_
    refine jr.icmp_ne rfl rfl (by omega) (by omega) (fun h176 => ?_) (fun h176 => ?_)
    · refine jr.bipush rfl (by decide) ?_
      exact jr.ireturn rfl rfl rfl (q _ _ hI_M hH_M hS_M  (by omega) (fun a i f603 => rfl))
    · refine jr.aload_n rfl rfl ?_
      obtain ⟨v6, e6⟩ : ∃ z, M 598 112 = z := ⟨_, rfl⟩
      have b6 : 0 ≤ v6 ∧ v6 ≤ 2147483647 := by rw [← e6]; exact hI_M 598 112 (by decide)
      refine jr.getf (i := 112) (x := v6) (v := .int (Int32.ofInt (v6))) rfl rfl (by decide) rfl (by decide) rfl rfl e6 rfl ?_
      refine jr.goto rfl rfl ?_
      exact jr.ireturn rfl rfl rfl (q _ _ hI_M hH_M hS_M  (by omega) (fun a i f603 => rfl))
theorem r_rules_L202_x {A : Nat → Option (Nat × (Nat → Int32))} {Q : Option Value → jm → Prop} {M0 : jm} (q : ∀ (r : Int) (M' : jm), RI M' → RH M' → RF M' → (-17) ≤ r ∧ r ≤ 16 → MC M' → M' 598 1 = 0 → (∀ (a : Nat) (i : Int), a ≠ 598 → a ≠ 651 → a ≠ 652 → a ≠ 653 → a ≠ 654 → a ≠ 655 → a ≠ 656 → a ≠ 657 → a ≠ 658 → a ≠ 659 → a ≠ 660 → a ≠ 661 → a ≠ 662 → a ≠ 663 → a ≠ 664 → a ≠ 665 → a ≠ 666 → a ≠ 667 → a ≠ 668 → a ≠ 669 → M' a i = M0 a i) → (∀ (i : Int), i ≠ 1 → i ≠ 72 → i ≠ 73 → i ≠ 74 → i ≠ 75 → i ≠ 76 → i ≠ 77 → i ≠ 78 → i ≠ 79 → i ≠ 80 → i ≠ 81 → i ≠ 82 → i ≠ 83 → i ≠ 88 → i ≠ 89 → i ≠ 90 → i ≠ 96 → i ≠ 100 → i ≠ 101 → i ≠ 102 → i ≠ 107 → M' 598 i = M0 598 i) → Q (some (.int (Int32.ofInt r))) M') : ∀ (nM : Nat) (M : jm) (k : Int), RI M → RH M → RF M → (∀ (a : Nat) (i : Int), a ≠ 598 → a ≠ 651 → a ≠ 652 → a ≠ 653 → a ≠ 654 → a ≠ 655 → a ≠ 656 → a ≠ 657 → a ≠ 658 → a ≠ 659 → a ≠ 660 → a ≠ 661 → a ≠ 662 → a ≠ 663 → a ≠ 664 → a ≠ 665 → a ≠ 666 → a ≠ 667 → a ≠ 668 → a ≠ 669 → M a i = M0 a i) → (∀ (i : Int), i ≠ 1 → i ≠ 72 → i ≠ 73 → i ≠ 74 → i ≠ 75 → i ≠ 76 → i ≠ 77 → i ≠ 78 → i ≠ 79 → i ≠ 80 → i ≠ 81 → i ≠ 82 → i ≠ 83 → i ≠ 88 → i ≠ 89 → i ≠ 90 → i ≠ 96 → i ≠ 100 → i ≠ 101 → i ≠ 102 → i ≠ 107 → M 598 i = M0 598 i) → 0 ≤ k ∧ k ≤ 2200 → RD M → M 598 82 = M 598 88 → CQ M (M 598 82) → CD M k → M 598 1 = 0 → 2200 - k ≤ nM → jr A 9 xm_371 202 [(1, .int (Int32.ofInt (k))), (0, .ref (598))] [] M Q := by
  intro nM
  induction nM using Nat.strongRecOn with
  | ind nM ih =>
    intro M k hI_M hH_M hS_M hF_M hG_M h_k hy0 hy1 hy2 hy3 hy4 hm
    have hR := hy0
    have hQ := hy2
    have hC := hy3
    obtain ⟨_, r1, r2, r3, r4⟩ := id hy0
    refine jr.iload_n rfl rfl ?_
    refine jr.aload_n rfl rfl ?_
    obtain ⟨v1, e1⟩ : ∃ z, M 598 90 = z := ⟨_, rfl⟩
    have b1 : 0 ≤ v1 ∧ v1 ≤ 2200 := by rw [← e1]; exact hI_M 598 90 (by decide)
    refine jr.getf (i := 90) (x := v1) (v := .int (Int32.ofInt (v1))) rfl rfl (by decide) rfl (by decide) rfl rfl e1 rfl ?_
    refine jr.icmp_ge rfl rfl (by omega) (by omega) (fun h207 => ?_) (fun h207 => ?_)
    · refine jr.aload_n rfl rfl ?_
      obtain ⟨v2, e2⟩ : ∃ z, M 598 82 = z := ⟨_, rfl⟩
      have b2 : 0 ≤ v2 ∧ v2 ≤ 16 := by rw [← e2]; exact hI_M 598 82 (by decide)
      refine jr.getf (i := 82) (x := v2) (v := .int (Int32.ofInt (v2))) rfl rfl (by decide) rfl (by decide) rfl rfl e2 rfl ?_
      obtain ⟨v3, e3⟩ : ∃ z, M 598 1 = z := ⟨_, rfl⟩
      have b3 : 0 ≤ v3 ∧ v3 ≤ 1600 := by rw [← e3]; exact hI_M 598 1 (by decide)
      exact jr.ireturn rfl rfl rfl (q _ _ hI_M hH_M hS_M  (by omega) (MC.make hR hy1 hQ hC (by omega)) (by have hq : M 598 1 = v3 := e3; omega) (fun a i f598 f651 f652 f653 f654 f655 f656 f657 f658 f659 f660 f661 f662 f663 f664 f665 f666 f667 f668 f669 => (hF_M a i f598 f651 f652 f653 f654 f655 f656 f657 f658 f659 f660 f661 f662 f663 f664 f665 f666 f667 f668 f669)) (fun i g1 g72 g73 g74 g75 g76 g77 g78 g79 g80 g81 g82 g83 g88 g89 g90 g96 g100 g101 g102 g107 => (hG_M i g1 g72 g73 g74 g75 g76 g77 g78 g79 g80 g81 g82 g83 g88 g89 g90 g96 g100 g101 g102 g107)))
    · refine jr.aload_n rfl rfl ?_
      refine jr.getf (i := 86) (v := .ref 654) rfl rfl (by decide) rfl (by decide) rfl rfl rfl rfl ?_
      refine jr.iload_n rfl rfl ?_
      refine jr.aload_n rfl rfl ?_
      refine jr.getf (i := 94) (v := .ref 659) rfl rfl (by decide) rfl (by decide) rfl rfl rfl rfl ?_
      refine jr.iload_n rfl rfl ?_
      obtain ⟨v4, e4⟩ : ∃ z, M 659 k = z := ⟨_, rfl⟩
      have b4 : 0 ≤ v4 ∧ v4 ≤ 1000 := by rw [← e4]; exact (by have q := hI_M 659 k (by decide); rw [xri_row rfl rfl] at q; exact q)
      refine jr.iald (i := k) (x := v4) rfl (by decide) rfl (by decide) (by omega) (by omega) e4 ?_
      refine jr.iast (i := k) (x := v4) rfl (by decide) rfl (by decide) (by omega) (by omega) ?_
      refine jr.aload_n rfl rfl ?_
      refine jr.getf (i := 87) (v := .ref 655) rfl rfl (by decide) rfl (by decide) rfl rfl rfl rfl ?_
      refine jr.iload_n rfl rfl ?_
      refine jr.aload_n rfl rfl ?_
      refine jr.getf (i := 95) (v := .ref 660) rfl rfl (by decide) rfl (by decide) rfl rfl rfl rfl ?_
      refine jr.iload_n rfl rfl ?_
      obtain ⟨v5, e5⟩ : ∃ z, M 660 k = z := ⟨_, rfl⟩
      have b5 : (-9223372036854775808) ≤ v5 ∧ v5 ≤ 9223372036854775807 := by rw [← e5]; exact (by have q := hI_M 660 k (by decide); rw [xri_row rfl rfl] at q; exact q)
      refine jr.lald (i := k) (x := v5) rfl (by decide) rfl (by decide) (by omega) (by omega) ((ju_c _ _ (by decide)).trans e5) ?_
      refine jr.last (i := k) (x := v5) rfl (by decide) rfl (by decide) (by omega) (by omega) ?_
      refine jr.iinc rfl rfl (by decide) rfl ?_
      refine jr.goto rfl rfl ?_
      obtain ⟨v6, e6⟩ : ∃ z, M 598 82 = z := ⟨_, rfl⟩
      have b6 : 0 ≤ v6 ∧ v6 ≤ 16 := by rw [← e6]; exact hI_M 598 82 (by decide)
      obtain ⟨v7, e7⟩ : ∃ z, M 598 88 = z := ⟨_, rfl⟩
      have b7 : 0 ≤ v7 ∧ v7 ≤ 16 := by rw [← e7]; exact hI_M 598 88 (by decide)
      obtain ⟨v8, e8⟩ : ∃ z, M 598 1 = z := ⟨_, rfl⟩
      have b8 : 0 ≤ v8 ∧ v8 ≤ 1600 := by rw [← e8]; exact hI_M 598 1 (by decide)
      refine jr.pick [0, 1] rfl rfl ?_
      exact ih (nM - 1) (by omega) (ju (ju M 654 k v4) 655 k v5) (k + 1) (RI.u (RI.u hI_M (a := 654) (i := k) (by rw [xri_row rfl rfl]; show (0 : Int) ≤ _ ∧ _ ≤ (1000 : Int); omega)) (a := 655) (i := k) (by rw [xri_row rfl rfl]; show (-9223372036854775808 : Int) ≤ _ ∧ _ ≤ (9223372036854775807 : Int); omega)) (RH.o (RH.o hH_M (by decide) (by decide) (by decide)) (by decide) (by decide) (by decide)) (RF.o (RF.o hS_M (by decide) (by decide)) (by decide) (by decide))  (fun a i f598 f651 f652 f653 f654 f655 f656 f657 f658 f659 f660 f661 f662 f663 f664 f665 f666 f667 f668 f669 => ((ju_c _ _ f655).trans ((ju_c _ _ f654).trans (hF_M a i f598 f651 f652 f653 f654 f655 f656 f657 f658 f659 f660 f661 f662 f663 f664 f665 f666 f667 f668 f669)))) (fun i g1 g72 g73 g74 g75 g76 g77 g78 g79 g80 g81 g82 g83 g88 g89 g90 g96 g100 g101 g102 g107 => ((ju_c _ _ (by decide)).trans ((ju_c _ _ (by decide)).trans (hG_M i g1 g72 g73 g74 g75 g76 g77 g78 g79 g80 g81 g82 g83 g88 g89 g90 g96 g100 g101 g102 g107)))) (by omega) (RD.o (RD.o hR (Or.inl (by decide))) (Or.inl (by decide))) (by rw [((ju_c _ _ (by decide)).trans ((ju_c _ _ (by decide)).trans e6)), ((ju_c _ _ (by decide)).trans ((ju_c _ _ (by decide)).trans e7))] <;> omega) (by rw [ju_c _ _ (by decide), ju_c _ _ (by decide)]; exact CQ.o hQ) (CD.add hC e4 e5) (by rw [((ju_c _ _ (by decide)).trans ((ju_c _ _ (by decide)).trans e8))] <;> omega) (by omega)
theorem r_rules_L162_x {A : Nat → Option (Nat × (Nat → Int32))} {Q : Option Value → jm → Prop} {M0 : jm} (q : ∀ (r : Int) (M' : jm), RI M' → RH M' → RF M' → (-17) ≤ r ∧ r ≤ 16 → MC M' → M' 598 1 = 0 → (∀ (a : Nat) (i : Int), a ≠ 598 → a ≠ 651 → a ≠ 652 → a ≠ 653 → a ≠ 654 → a ≠ 655 → a ≠ 656 → a ≠ 657 → a ≠ 658 → a ≠ 659 → a ≠ 660 → a ≠ 661 → a ≠ 662 → a ≠ 663 → a ≠ 664 → a ≠ 665 → a ≠ 666 → a ≠ 667 → a ≠ 668 → a ≠ 669 → M' a i = M0 a i) → (∀ (i : Int), i ≠ 1 → i ≠ 72 → i ≠ 73 → i ≠ 74 → i ≠ 75 → i ≠ 76 → i ≠ 77 → i ≠ 78 → i ≠ 79 → i ≠ 80 → i ≠ 81 → i ≠ 82 → i ≠ 83 → i ≠ 88 → i ≠ 89 → i ≠ 90 → i ≠ 96 → i ≠ 100 → i ≠ 101 → i ≠ 102 → i ≠ 107 → M' 598 i = M0 598 i) → Q (some (.int (Int32.ofInt r))) M') : ∀ (nM : Nat) (M : jm) (k : Int), RI M → RH M → RF M → (∀ (a : Nat) (i : Int), a ≠ 598 → a ≠ 651 → a ≠ 652 → a ≠ 653 → a ≠ 654 → a ≠ 655 → a ≠ 656 → a ≠ 657 → a ≠ 658 → a ≠ 659 → a ≠ 660 → a ≠ 661 → a ≠ 662 → a ≠ 663 → a ≠ 664 → a ≠ 665 → a ≠ 666 → a ≠ 667 → a ≠ 668 → a ≠ 669 → M a i = M0 a i) → (∀ (i : Int), i ≠ 1 → i ≠ 72 → i ≠ 73 → i ≠ 74 → i ≠ 75 → i ≠ 76 → i ≠ 77 → i ≠ 78 → i ≠ 79 → i ≠ 80 → i ≠ 81 → i ≠ 82 → i ≠ 83 → i ≠ 88 → i ≠ 89 → i ≠ 90 → i ≠ 96 → i ≠ 100 → i ≠ 101 → i ≠ 102 → i ≠ 107 → M 598 i = M0 598 i) → 0 ≤ k ∧ k ≤ 16 → RD M → M 598 82 = M 598 88 ∧ 1 ≤ M 598 88 ∧ M 598 88 ≤ 16 → CQ M k → M 598 1 = 0 → 16 - k ≤ nM → jr A 9 xm_371 162 [(1, .int (Int32.ofInt (k))), (0, .ref (598))] [] M Q := by
  intro nM
  induction nM using Nat.strongRecOn with
  | ind nM ih =>
    intro M k hI_M hH_M hS_M hF_M hG_M h_k hy0 hy1 hy2 hy3 hm
    have hR := hy0
    have hQ := hy2
    obtain ⟨_, r1, r2, r3, r4⟩ := id hy0
    refine jr.iload_n rfl rfl ?_
    refine jr.aload_n rfl rfl ?_
    obtain ⟨v1, e1⟩ : ∃ z, M 598 82 = z := ⟨_, rfl⟩
    have b1 : 0 ≤ v1 ∧ v1 ≤ 16 := by rw [← e1]; exact hI_M 598 82 (by decide)
    refine jr.getf (i := 82) (x := v1) (v := .int (Int32.ofInt (v1))) rfl rfl (by decide) rfl (by decide) rfl rfl e1 rfl ?_
    refine jr.icmp_ge rfl rfl (by omega) (by omega) (fun h167 => ?_) (fun h167 => ?_)
    · refine jr.iconst rfl ?_
      refine jr.istore_n rfl (by decide) rfl ?_
      obtain ⟨v2, e2⟩ : ∃ z, M 598 88 = z := ⟨_, rfl⟩
      have b2 : 0 ≤ v2 ∧ v2 ≤ 16 := by rw [← e2]; exact hI_M 598 88 (by decide)
      obtain ⟨v3, e3⟩ : ∃ z, M 598 1 = z := ⟨_, rfl⟩
      have b3 : 0 ≤ v3 ∧ v3 ≤ 1600 := by rw [← e3]; exact hI_M 598 1 (by decide)
      refine jr.pick [0, 1] rfl rfl ?_
      exact r_rules_L202_x q 2200 M 0 hI_M hH_M hS_M  (fun a i f598 f651 f652 f653 f654 f655 f656 f657 f658 f659 f660 f661 f662 f663 f664 f665 f666 f667 f668 f669 => (hF_M a i f598 f651 f652 f653 f654 f655 f656 f657 f658 f659 f660 f661 f662 f663 f664 f665 f666 f667 f668 f669)) (fun i g1 g72 g73 g74 g75 g76 g77 g78 g79 g80 g81 g82 g83 g88 g89 g90 g96 g100 g101 g102 g107 => (hG_M i g1 g72 g73 g74 g75 g76 g77 g78 g79 g80 g81 g82 g83 g88 g89 g90 g96 g100 g101 g102 g107)) (by omega) hR (by rw [e1, e2] <;> omega) (fun c c0 c1 => hQ c c0 (by omega)) (fun c c0 c1 => by omega) (by rw [e3] <;> omega) (by omega)
    · refine jr.aload_n rfl rfl ?_
      refine jr.getf (i := 84) (v := .ref 652) rfl rfl (by decide) rfl (by decide) rfl rfl rfl rfl ?_
      refine jr.iload_n rfl rfl ?_
      refine jr.aload_n rfl rfl ?_
      refine jr.getf (i := 92) (v := .ref 657) rfl rfl (by decide) rfl (by decide) rfl rfl rfl rfl ?_
      refine jr.iload_n rfl rfl ?_
      obtain ⟨v4, e4⟩ : ∃ z, M 657 k = z := ⟨_, rfl⟩
      have b4 : 0 ≤ v4 ∧ v4 ≤ 2200 := by rw [← e4]; exact (by have q := hI_M 657 k (by decide); rw [xri_row rfl rfl] at q; exact q)
      refine jr.iald (i := k) (x := v4) rfl (by decide) rfl (by decide) (by omega) (by omega) e4 ?_
      refine jr.iast (i := k) (x := v4) rfl (by decide) rfl (by decide) (by omega) (by omega) ?_
      refine jr.aload_n rfl rfl ?_
      refine jr.getf (i := 85) (v := .ref 653) rfl rfl (by decide) rfl (by decide) rfl rfl rfl rfl ?_
      refine jr.iload_n rfl rfl ?_
      refine jr.aload_n rfl rfl ?_
      refine jr.getf (i := 93) (v := .ref 658) rfl rfl (by decide) rfl (by decide) rfl rfl rfl rfl ?_
      refine jr.iload_n rfl rfl ?_
      obtain ⟨v5, e5⟩ : ∃ z, M 658 k = z := ⟨_, rfl⟩
      have b5 : (-1) ≤ v5 ∧ v5 ≤ 2200 := by rw [← e5]; exact (by have q := hI_M 658 k (by decide); rw [xri_row rfl rfl] at q; exact q)
      refine jr.iald (i := k) (x := v5) rfl (by decide) rfl (by decide) (by omega) (by omega) ((ju_c _ _ (by decide)).trans e5) ?_
      refine jr.iast (i := k) (x := v5) rfl (by decide) rfl (by decide) (by omega) (by omega) ?_
      refine jr.iinc rfl rfl (by decide) rfl ?_
      refine jr.goto rfl rfl ?_
      obtain ⟨v6, e6⟩ : ∃ z, M 598 88 = z := ⟨_, rfl⟩
      have b6 : 0 ≤ v6 ∧ v6 ≤ 16 := by rw [← e6]; exact hI_M 598 88 (by decide)
      obtain ⟨v7, e7⟩ : ∃ z, M 598 1 = z := ⟨_, rfl⟩
      have b7 : 0 ≤ v7 ∧ v7 ≤ 1600 := by rw [← e7]; exact hI_M 598 1 (by decide)
      refine jr.pick [0, 1] rfl rfl ?_
      exact ih (nM - 1) (by omega) (ju (ju M 652 k v4) 653 k v5) (k + 1) (RI.u (RI.u hI_M (a := 652) (i := k) (by rw [xri_row rfl rfl]; show (0 : Int) ≤ _ ∧ _ ≤ (2200 : Int); omega)) (a := 653) (i := k) (by rw [xri_row rfl rfl]; show (-1 : Int) ≤ _ ∧ _ ≤ (2200 : Int); omega)) (RH.o (RH.o hH_M (by decide) (by decide) (by decide)) (by decide) (by decide) (by decide)) (RF.o (RF.o hS_M (by decide) (by decide)) (by decide) (by decide))  (fun a i f598 f651 f652 f653 f654 f655 f656 f657 f658 f659 f660 f661 f662 f663 f664 f665 f666 f667 f668 f669 => ((ju_c _ _ f653).trans ((ju_c _ _ f652).trans (hF_M a i f598 f651 f652 f653 f654 f655 f656 f657 f658 f659 f660 f661 f662 f663 f664 f665 f666 f667 f668 f669)))) (fun i g1 g72 g73 g74 g75 g76 g77 g78 g79 g80 g81 g82 g83 g88 g89 g90 g96 g100 g101 g102 g107 => ((ju_c _ _ (by decide)).trans ((ju_c _ _ (by decide)).trans (hG_M i g1 g72 g73 g74 g75 g76 g77 g78 g79 g80 g81 g82 g83 g88 g89 g90 g96 g100 g101 g102 g107)))) (by omega) (RD.o (RD.o hR (Or.inl (by decide))) (Or.inl (by decide))) (by rw [((ju_c _ _ (by decide)).trans ((ju_c _ _ (by decide)).trans e1)), ((ju_c _ _ (by decide)).trans ((ju_c _ _ (by decide)).trans e6))] <;> omega) (CQ.add hQ e4 e5) (by rw [((ju_c _ _ (by decide)).trans ((ju_c _ _ (by decide)).trans e7))] <;> omega) (by omega)
theorem r_rules_L144_x {A : Nat → Option (Nat × (Nat → Int32))} {Q : Option Value → jm → Prop} {M0 : jm} (q : ∀ (r : Int) (M' : jm), RI M' → RH M' → RF M' → (-17) ≤ r ∧ r ≤ 16 → MC M' → M' 598 1 = 0 → (∀ (a : Nat) (i : Int), a ≠ 598 → a ≠ 651 → a ≠ 652 → a ≠ 653 → a ≠ 654 → a ≠ 655 → a ≠ 656 → a ≠ 657 → a ≠ 658 → a ≠ 659 → a ≠ 660 → a ≠ 661 → a ≠ 662 → a ≠ 663 → a ≠ 664 → a ≠ 665 → a ≠ 666 → a ≠ 667 → a ≠ 668 → a ≠ 669 → M' a i = M0 a i) → (∀ (i : Int), i ≠ 1 → i ≠ 72 → i ≠ 73 → i ≠ 74 → i ≠ 75 → i ≠ 76 → i ≠ 77 → i ≠ 78 → i ≠ 79 → i ≠ 80 → i ≠ 81 → i ≠ 82 → i ≠ 83 → i ≠ 88 → i ≠ 89 → i ≠ 90 → i ≠ 96 → i ≠ 100 → i ≠ 101 → i ≠ 102 → i ≠ 107 → M' 598 i = M0 598 i) → Q (some (.int (Int32.ofInt r))) M') : ∀ (M : jm) , RI M → RH M → RF M → (∀ (a : Nat) (i : Int), a ≠ 598 → a ≠ 651 → a ≠ 652 → a ≠ 653 → a ≠ 654 → a ≠ 655 → a ≠ 656 → a ≠ 657 → a ≠ 658 → a ≠ 659 → a ≠ 660 → a ≠ 661 → a ≠ 662 → a ≠ 663 → a ≠ 664 → a ≠ 665 → a ≠ 666 → a ≠ 667 → a ≠ 668 → a ≠ 669 → M a i = M0 a i) → (∀ (i : Int), i ≠ 1 → i ≠ 72 → i ≠ 73 → i ≠ 74 → i ≠ 75 → i ≠ 76 → i ≠ 77 → i ≠ 78 → i ≠ 79 → i ≠ 80 → i ≠ 81 → i ≠ 82 → i ≠ 83 → i ≠ 88 → i ≠ 89 → i ≠ 90 → i ≠ 96 → i ≠ 100 → i ≠ 101 → i ≠ 102 → i ≠ 107 → M 598 i = M0 598 i) → RD M → 1 ≤ M 598 88 ∧ M 598 88 ≤ 16 → M 598 1 = 0 → jr A 9 xm_371 144 [(0, .ref (598))] [] M Q := by
    intro M  hI_M hH_M hS_M hF_M hG_M  hy0 hy1 hy2
    have hR := hy0
    obtain ⟨_, r1, r2, r3, r4⟩ := id hy0
    refine jr.aload_n rfl rfl ?_
    refine jr.aload_n rfl rfl ?_
    obtain ⟨v1, e1⟩ : ∃ z, M 598 88 = z := ⟨_, rfl⟩
    have b1 : 0 ≤ v1 ∧ v1 ≤ 16 := by rw [← e1]; exact hI_M 598 88 (by decide)
    refine jr.getf (i := 88) (x := v1) (v := .int (Int32.ofInt (v1))) rfl rfl (by decide) rfl (by decide) rfl rfl e1 rfl ?_
    refine jr.putf (i := 82) (x := v1) rfl rfl (by decide) rfl (by decide) rfl rfl rfl rfl rfl ?_
    refine jr.aload_n rfl rfl ?_
    refine jr.aload_n rfl rfl ?_
    obtain ⟨v2, e2⟩ : ∃ z, M 598 89 = z := ⟨_, rfl⟩
    have b2 : 0 ≤ v2 ∧ v2 ≤ 301 := by rw [← e2]; exact hI_M 598 89 (by decide)
    refine jr.getf (i := 89) (x := v2) (v := .int (Int32.ofInt (v2))) rfl rfl (by decide) rfl (by decide) rfl rfl ((ju_i _ _ (by decide)).trans e2) rfl ?_
    refine jr.putf (i := 83) (x := v2) rfl rfl (by decide) rfl (by decide) rfl rfl rfl rfl rfl ?_
    refine jr.iconst rfl ?_
    refine jr.istore_n rfl (by decide) rfl ?_
    obtain ⟨v3, e3⟩ : ∃ z, M 598 1 = z := ⟨_, rfl⟩
    have b3 : 0 ≤ v3 ∧ v3 ≤ 1600 := by rw [← e3]; exact hI_M 598 1 (by decide)
    refine jr.pick [0, 1] rfl rfl ?_
    exact r_rules_L162_x q 16 (ju (ju M 598 82 v1) 598 83 v2) 0 (RI.u (RI.u hI_M (a := 598) (i := 82) (show (0 : Int) ≤ _ ∧ _ ≤ (16 : Int) from by omega)) (a := 598) (i := 83) (show (0 : Int) ≤ _ ∧ _ ≤ (301 : Int) from by omega)) (RH.o (RH.o hH_M (by decide) (by decide) (by decide)) (by decide) (by decide) (by decide)) (RF.o (RF.o hS_M (by decide) (by decide)) (by decide) (by decide))  (fun a i f598 f651 f652 f653 f654 f655 f656 f657 f658 f659 f660 f661 f662 f663 f664 f665 f666 f667 f668 f669 => ((ju_c _ _ f598).trans ((ju_c _ _ f598).trans (hF_M a i f598 f651 f652 f653 f654 f655 f656 f657 f658 f659 f660 f661 f662 f663 f664 f665 f666 f667 f668 f669)))) (fun i g1 g72 g73 g74 g75 g76 g77 g78 g79 g80 g81 g82 g83 g88 g89 g90 g96 g100 g101 g102 g107 => ((ju_i _ _ g83).trans ((ju_i _ _ g82).trans (hG_M i g1 g72 g73 g74 g75 g76 g77 g78 g79 g80 g81 g82 g83 g88 g89 g90 g96 g100 g101 g102 g107)))) (by omega) (RD.o (RD.o hR (Or.inr (by decide))) (Or.inr (by decide))) (by rw [((ju_i _ _ (by decide)).trans (ju_same _ _ _ _)), ((ju_i _ _ (by decide)).trans ((ju_i _ _ (by decide)).trans e1))] <;> omega) (fun c c0 c1 => by omega) (by rw [((ju_i _ _ (by decide)).trans ((ju_i _ _ (by decide)).trans e3))] <;> omega) (by omega)
theorem r_rules_L85_x {A : Nat → Option (Nat × (Nat → Int32))} {Q : Option Value → jm → Prop} {M0 : jm} (q : ∀ (r : Int) (M' : jm), RI M' → RH M' → RF M' → (-17) ≤ r ∧ r ≤ 16 → MC M' → M' 598 1 = 0 → (∀ (a : Nat) (i : Int), a ≠ 598 → a ≠ 651 → a ≠ 652 → a ≠ 653 → a ≠ 654 → a ≠ 655 → a ≠ 656 → a ≠ 657 → a ≠ 658 → a ≠ 659 → a ≠ 660 → a ≠ 661 → a ≠ 662 → a ≠ 663 → a ≠ 664 → a ≠ 665 → a ≠ 666 → a ≠ 667 → a ≠ 668 → a ≠ 669 → M' a i = M0 a i) → (∀ (i : Int), i ≠ 1 → i ≠ 72 → i ≠ 73 → i ≠ 74 → i ≠ 75 → i ≠ 76 → i ≠ 77 → i ≠ 78 → i ≠ 79 → i ≠ 80 → i ≠ 81 → i ≠ 82 → i ≠ 83 → i ≠ 88 → i ≠ 89 → i ≠ 90 → i ≠ 96 → i ≠ 100 → i ≠ 101 → i ≠ 102 → i ≠ 107 → M' 598 i = M0 598 i) → Q (some (.int (Int32.ofInt r))) M') : ∀ (nM : Nat) (M : jm) , RI M → RH M → RF M → (∀ (a : Nat) (i : Int), a ≠ 598 → a ≠ 651 → a ≠ 652 → a ≠ 653 → a ≠ 654 → a ≠ 655 → a ≠ 656 → a ≠ 657 → a ≠ 658 → a ≠ 659 → a ≠ 660 → a ≠ 661 → a ≠ 662 → a ≠ 663 → a ≠ 664 → a ≠ 665 → a ≠ 666 → a ≠ 667 → a ≠ 668 → a ≠ 669 → M a i = M0 a i) → (∀ (i : Int), i ≠ 1 → i ≠ 72 → i ≠ 73 → i ≠ 74 → i ≠ 75 → i ≠ 76 → i ≠ 77 → i ≠ 78 → i ≠ 79 → i ≠ 80 → i ≠ 81 → i ≠ 82 → i ≠ 83 → i ≠ 88 → i ≠ 89 → i ≠ 90 → i ≠ 96 → i ≠ 100 → i ≠ 101 → i ≠ 102 → i ≠ 107 → M 598 i = M0 598 i) → XS M 0 0 (M 598 100) 1 (-1) → AK M → LB M → M 598 80 = 0 → M 598 96 ≤ M 598 89 ∧ M 598 89 ≤ 300 ∧ M 598 107 = 0 → M 598 73 ≤ M 598 72 → (M 598 74 = 3 → M 598 79 ≠ 10 ∧ M 598 79 ≠ 11) → MC M → M 598 1 = 0 → TK M ≤ nM → jr A 9 xm_371 85 [(0, .ref (598))] [] M Q := by
  intro nM
  induction nM using Nat.strongRecOn with
  | ind nM ih =>
    intro M  hI_M hH_M hS_M hF_M hG_M  hy0 hy1 hy2 hy3 hy4 hy5 hy6 hy7 hy8 hm
    have hX := hy0
    have hA := hy1
    have hB := hy2
    have hM := hy7
    have b74 : (0 : Int) ≤ M 598 74 ∧ M 598 74 ≤ 4 := hI_M 598 74 (by decide)
    have b73 : (0 : Int) ≤ M 598 73 ∧ M 598 73 ≤ 1600 := hI_M 598 73 (by decide)
    have tg := TK.ge (M := M) (by omega) (by omega)
    refine jr.aload_n rfl rfl ?_
    refine jr.iconst rfl ?_
    refine jr_v rfl rfl (Or.inl rfl) rfl rfl (by decide) rfl ⟨rfl, Nat.le_of_ble_eq_true rfl, Nat.le_of_ble_eq_true rfl⟩ rfl (jc.deep (c_isWord hI_M (by omega) (fun t87_0 t87_1 => ?_) (fun f87_0 => ?_)) (by decide))
    · refine jr.if_eq rfl rfl (by omega) (fun h => absurd h (by decide)) (fun _ => ?_)
      refine jr.aload_n rfl rfl ?_
      obtain ⟨v2, e2⟩ : ∃ z, M 598 80 = z := ⟨_, rfl⟩
      have b2 : 0 ≤ v2 ∧ v2 ≤ 7 := by rw [← e2]; exact hI_M 598 80 (by decide)
      obtain ⟨v3, e3⟩ : ∃ z, M 598 96 = z := ⟨_, rfl⟩
      have b3 : 0 ≤ v3 ∧ v3 ≤ 300 := by rw [← e3]; exact hI_M 598 96 (by decide)
      obtain ⟨v4, e4⟩ : ∃ z, M 598 89 = z := ⟨_, rfl⟩
      have b4 : 0 ≤ v4 ∧ v4 ≤ 301 := by rw [← e4]; exact hI_M 598 89 (by decide)
      obtain ⟨v5, e5⟩ : ∃ z, M 598 107 = z := ⟨_, rfl⟩
      have b5 : 0 ≤ v5 ∧ v5 ≤ 16 := by rw [← e5]; exact hI_M 598 107 (by decide)
      obtain ⟨v6, e6⟩ : ∃ z, M 598 73 = z := ⟨_, rfl⟩
      have b6 : 0 ≤ v6 ∧ v6 ≤ 1600 := by rw [← e6]; exact hI_M 598 73 (by decide)
      obtain ⟨v7, e7⟩ : ∃ z, M 598 72 = z := ⟨_, rfl⟩
      have b7 : 0 ≤ v7 ∧ v7 ≤ 1600 := by rw [← e7]; exact hI_M 598 72 (by decide)
      obtain ⟨v8, e8⟩ : ∃ z, M 598 74 = z := ⟨_, rfl⟩
      have b8 : 0 ≤ v8 ∧ v8 ≤ 4 := by rw [← e8]; exact hI_M 598 74 (by decide)
      obtain ⟨v9, e9⟩ : ∃ z, M 598 79 = z := ⟨_, rfl⟩
      have b9 : 0 ≤ v9 ∧ v9 ≤ 255 := by rw [← e9]; exact hI_M 598 79 (by decide)
      refine jr_v rfl rfl (Or.inl rfl) rfl rfl (by decide) rfl ⟨rfl, Nat.le_of_ble_eq_true rfl, Nat.le_of_ble_eq_true rfl⟩ rfl (jc.deep (r_chain hI_M hH_M hS_M   hX hA hB (by rw [e2, e3, e4, e5]; omega) (by rw [e6, e7]; omega) (by rw [e8, e9]; intro q; omega) (by rw [e8]; omega) (fun M1 hI_M1 hH_M1 hS_M1  w1_0 w1_1 w1_2 w1_3 w1_4 w1_5 => ?_)) (by decide))
      refine jr.goto rfl rfl ?_
      refine jr.aload_n rfl rfl ?_
      refine jr_v rfl rfl (Or.inl rfl) rfl rfl (by decide) rfl ⟨rfl, Nat.le_of_ble_eq_true rfl, Nat.le_of_ble_eq_true rfl⟩ rfl (jc.deep (c_good hI_M1  (fun t105_0 => ?_) (fun f105_0 => ?_)) (by decide))
      · obtain ⟨⟨ds1, ds2, ds3, ds4, ds5, ds6, ds7, ds8, ds9⟩, zb, ztk, zn, zc, zl⟩ := w1_0.resolve_left (fun z => z.1 t105_0)
        have dpx := XS.dep ds2
        have sl := XS.sgle ds2
        have hX : XS M1 0 0 (M1 598 100) 1 (-1) := by rw [show M1 598 100 = 0 by omega]; exact ds2
        have hA := ds8
        have hB := ds7
        have bM1_107 : (0 : Int) ≤ M1 598 107 ∧ M1 598 107 ≤ 16 := hI_M1 598 107 (by decide)
        have bM1_73 : (0 : Int) ≤ M1 598 73 ∧ M1 598 73 ≤ 1600 := hI_M1 598 73 (by decide)
        have bM1_88 : (0 : Int) ≤ M1 598 88 ∧ M1 598 88 ≤ 16 := hI_M1 598 88 (by decide)
        have bM1_100 : (0 : Int) ≤ M1 598 100 ∧ M1 598 100 ≤ 13 := hI_M1 598 100 (by decide)
        have bq74 : (0 : Int) ≤ M1 598 74 ∧ M1 598 74 ≤ 4 := hI_M1 598 74 (by decide)
        have tg1 := TK.ge (M := M1) (by omega) (by omega)
        refine jr.if_eq rfl rfl (by omega) (fun h => absurd h (by decide)) (fun _ => ?_)
        refine jr.aload_n rfl rfl ?_
        obtain ⟨v10, e10⟩ : ∃ z, M1 598 74 = z := ⟨_, rfl⟩
        have b10 : 0 ≤ v10 ∧ v10 ≤ 4 := by rw [← e10]; exact hI_M1 598 74 (by decide)
        refine jr.getf (i := 74) (x := v10) (v := .int (Int32.ofInt (v10))) rfl rfl (by decide) rfl (by decide) rfl rfl e10 rfl ?_
        refine jr.if_ne rfl rfl (by omega) (fun h115 => ?_) (fun h115 => ?_)
        · have sx115 : (1 : Int) ≤ v10 := by omega
          obtain ⟨v11, e11⟩ : ∃ z, M1 598 80 = z := ⟨_, rfl⟩
          have b11 : 0 ≤ v11 ∧ v11 ≤ 7 := by rw [← e11]; exact hI_M1 598 80 (by decide)
          obtain ⟨v12, e12⟩ : ∃ z, M1 598 96 = z := ⟨_, rfl⟩
          have b12 : 0 ≤ v12 ∧ v12 ≤ 300 := by rw [← e12]; exact hI_M1 598 96 (by decide)
          obtain ⟨v13, e13⟩ : ∃ z, M1 598 89 = z := ⟨_, rfl⟩
          have b13 : 0 ≤ v13 ∧ v13 ≤ 301 := by rw [← e13]; exact hI_M1 598 89 (by decide)
          obtain ⟨v14, e14⟩ : ∃ z, M1 598 107 = z := ⟨_, rfl⟩
          have b14 : 0 ≤ v14 ∧ v14 ≤ 16 := by rw [← e14]; exact hI_M1 598 107 (by decide)
          obtain ⟨v15, e15⟩ : ∃ z, M1 598 73 = z := ⟨_, rfl⟩
          have b15 : 0 ≤ v15 ∧ v15 ≤ 1600 := by rw [← e15]; exact hI_M1 598 73 (by decide)
          have e16 : M1 598 72 = v7 := ((w1_5 72 (by decide) (by decide) (by decide) (by decide) (by decide) (by decide) (by decide) (by decide) (by decide) (by decide) (by decide) (by decide) (by decide) (by decide) (by decide) (by decide) (by decide)).trans e7)
          obtain ⟨v17, e17⟩ : ∃ z, M1 598 79 = z := ⟨_, rfl⟩
          have b17 : 0 ≤ v17 ∧ v17 ≤ 255 := by rw [← e17]; exact hI_M1 598 79 (by decide)
          obtain ⟨v18, e18⟩ : ∃ z, M 598 1 = z := ⟨_, rfl⟩
          have b18 : 0 ≤ v18 ∧ v18 ≤ 1600 := by rw [← e18]; exact hI_M 598 1 (by decide)
          have e19 : M1 598 1 = v18 := ((w1_5 1 (by decide) (by decide) (by decide) (by decide) (by decide) (by decide) (by decide) (by decide) (by decide) (by decide) (by decide) (by decide) (by decide) (by decide) (by decide) (by decide) (by decide)).trans e18)
          refine jr.pick [0] rfl rfl ?_
          exact ih (nM - 1) (by omega) M1  hI_M1 hH_M1 hS_M1  (fun a i f598 f651 f652 f653 f654 f655 f656 f657 f658 f659 f660 f661 f662 f663 f664 f665 f666 f667 f668 f669 => ((w1_4 a i f598 f659 f660 f661 f662 f663 f664 f665 f666 f667 f668 f669 f656 f657 f658).trans (hF_M a i f598 f651 f652 f653 f654 f655 f656 f657 f658 f659 f660 f661 f662 f663 f664 f665 f666 f667 f668 f669))) (fun i g1 g72 g73 g74 g75 g76 g77 g78 g79 g80 g81 g82 g83 g88 g89 g90 g96 g100 g101 g102 g107 => ((w1_5 i g73 g74 g75 g76 g77 g78 g79 g80 g81 g89 g90 g96 g100 g102 g107 g88 g101).trans (hG_M i g1 g72 g73 g74 g75 g76 g77 g78 g79 g80 g81 g82 g83 g88 g89 g90 g96 g100 g101 g102 g107)))  hX hA hB (by rw [e11] <;> omega) (by rw [e12, e13, e14] <;> omega) (by rw [e15, e16] <;> omega) (by rw [e10, e17] <;> omega) (MC.fr hM (fun i => w1_4 652 i (by decide) (by decide) (by decide) (by decide) (by decide) (by decide) (by decide) (by decide) (by decide) (by decide) (by decide) (by decide) (by decide) (by decide) (by decide)) (fun i => w1_4 653 i (by decide) (by decide) (by decide) (by decide) (by decide) (by decide) (by decide) (by decide) (by decide) (by decide) (by decide) (by decide) (by decide) (by decide) (by decide)) (fun i => w1_4 654 i (by decide) (by decide) (by decide) (by decide) (by decide) (by decide) (by decide) (by decide) (by decide) (by decide) (by decide) (by decide) (by decide) (by decide) (by decide)) (fun i => w1_4 655 i (by decide) (by decide) (by decide) (by decide) (by decide) (by decide) (by decide) (by decide) (by decide) (by decide) (by decide) (by decide) (by decide) (by decide) (by decide)) (w1_5 82 (by decide) (by decide) (by decide) (by decide) (by decide) (by decide) (by decide) (by decide) (by decide) (by decide) (by decide) (by decide) (by decide) (by decide) (by decide) (by decide) (by decide))) (by rw [e19] <;> omega) (by omega)
        · refine jr.aload_n rfl rfl ?_
          obtain ⟨v20, e20⟩ : ∃ z, M1 598 80 = z := ⟨_, rfl⟩
          have b20 : 0 ≤ v20 ∧ v20 ≤ 7 := by rw [← e20]; exact hI_M1 598 80 (by decide)
          refine jr_v rfl rfl (Or.inl rfl) rfl rfl (by decide) rfl ⟨rfl, Nat.le_of_ble_eq_true rfl, Nat.le_of_ble_eq_true rfl⟩ rfl (jc.deep (c_good hI_M1  (fun t119_0 => ?_) (fun f119_0 => ?_)) (by decide))
          · refine jr.if_eq rfl rfl (by omega) (fun h => absurd h (by decide)) (fun _ => ?_)
            refine jr.aload_n rfl rfl ?_
            refine jr_v rfl rfl (Or.inl rfl) rfl rfl (by decide) rfl ⟨rfl, Nat.le_of_ble_eq_true rfl, Nat.le_of_ble_eq_true rfl⟩ rfl (jc.deep (r_resolve hI_M1 hH_M1 hS_M1   ds2 hA (fun M21 hI_M21 hH_M21 hS_M21  w21_0 w21_1 w21_2 => ?_)) (by decide))
            have tk21 : TK M21 = TK M1 := TK.fr (w21_2 73 (by decide) (by decide)) (w21_2 74 (by decide) (by decide))
            refine jr.aload_n rfl rfl ?_
            refine jr_v rfl rfl (Or.inl rfl) rfl rfl (by decide) rfl ⟨rfl, Nat.le_of_ble_eq_true rfl, Nat.le_of_ble_eq_true rfl⟩ rfl (jc.deep (c_good hI_M21  (fun t130_0 => ?_) (fun f130_0 => ?_)) (by decide))
            · refine jr.if_ne rfl rfl (by omega) (fun _ => ?_) (fun h => absurd (by decide) h)
              obtain ⟨v22, e22⟩ : ∃ z, M1 598 107 = z := ⟨_, rfl⟩
              have b22 : 0 ≤ v22 ∧ v22 ≤ 16 := by rw [← e22]; exact hI_M1 598 107 (by decide)
              have e23 : M21 598 107 = v22 := ((w21_2 107 (by decide) (by decide)).trans e22)
              have y24 : M21 598 107 = v22 := e23
              obtain ⟨v25, e25⟩ : ∃ z, M1 598 90 = z := ⟨_, rfl⟩
              have b25 : 0 ≤ v25 ∧ v25 ≤ 2200 := by rw [← e25]; exact hI_M1 598 90 (by decide)
              have e26 : M21 598 90 = v25 := ((w21_2 90 (by decide) (by decide)).trans e25)
              have y27 : M21 598 90 = v25 := e26
              obtain ⟨v28, e28⟩ : ∃ z, M1 598 88 = z := ⟨_, rfl⟩
              have b28 : 0 ≤ v28 ∧ v28 ≤ 16 := by rw [← e28]; exact hI_M1 598 88 (by decide)
              have e29 : M21 598 88 = v28 := ((w21_2 88 (by decide) (by decide)).trans e28)
              obtain ⟨v30, e30⟩ : ∃ z, M 598 1 = z := ⟨_, rfl⟩
              have b30 : 0 ≤ v30 ∧ v30 ≤ 1600 := by rw [← e30]; exact hI_M 598 1 (by decide)
              have e31 : M1 598 1 = v30 := ((w1_5 1 (by decide) (by decide) (by decide) (by decide) (by decide) (by decide) (by decide) (by decide) (by decide) (by decide) (by decide) (by decide) (by decide) (by decide) (by decide) (by decide) (by decide)).trans e30)
              have e32 : M21 598 1 = v30 := ((w21_2 1 (by decide) (by decide)).trans e31)
              refine jr.pick [0] rfl rfl ?_
              exact r_rules_L144_x q M21  hI_M21 hH_M21 hS_M21  (fun a i f598 f651 f652 f653 f654 f655 f656 f657 f658 f659 f660 f661 f662 f663 f664 f665 f666 f667 f668 f669 => ((w21_1 a i f598 f660).trans ((w1_4 a i f598 f659 f660 f661 f662 f663 f664 f665 f666 f667 f668 f669 f656 f657 f658).trans (hF_M a i f598 f651 f652 f653 f654 f655 f656 f657 f658 f659 f660 f661 f662 f663 f664 f665 f666 f667 f668 f669)))) (fun i g1 g72 g73 g74 g75 g76 g77 g78 g79 g80 g81 g82 g83 g88 g89 g90 g96 g100 g101 g102 g107 => ((w21_2 i g80 g81).trans ((w1_5 i g73 g74 g75 g76 g77 g78 g79 g80 g81 g89 g90 g96 g100 g102 g107 g88 g101).trans (hG_M i g1 g72 g73 g74 g75 g76 g77 g78 g79 g80 g81 g82 g83 g88 g89 g90 g96 g100 g101 g102 g107))))  ⟨w21_0, by omega, by omega, by omega, by rw [w21_2 90 (by decide) (by decide), w21_1 659 _ (by decide) (by decide)]; exact zl⟩ (by rw [e29] <;> omega) (by rw [e32] <;> omega)
            · refine jr.if_ne rfl rfl (by omega) (fun h => absurd h (by decide)) (fun _ => ?_)
              refine jr.bipush rfl (by decide) ?_
              refine jr.aload_n rfl rfl ?_
              obtain ⟨v33, e33⟩ : ∃ z, M21 598 80 = z := ⟨_, rfl⟩
              have b33 : 0 ≤ v33 ∧ v33 ≤ 7 := by rw [← e33]; exact hI_M21 598 80 (by decide)
              refine jr.getf (i := 80) (x := v33) (v := .int (Int32.ofInt (v33))) rfl rfl (by decide) rfl (by decide) rfl rfl e33 rfl ?_
              refine jr.isub rfl ?_
              obtain ⟨v34, e34⟩ : ∃ z, M 598 1 = z := ⟨_, rfl⟩
              have b34 : 0 ≤ v34 ∧ v34 ≤ 1600 := by rw [← e34]; exact hI_M 598 1 (by decide)
              have e35 : M1 598 1 = v34 := ((w1_5 1 (by decide) (by decide) (by decide) (by decide) (by decide) (by decide) (by decide) (by decide) (by decide) (by decide) (by decide) (by decide) (by decide) (by decide) (by decide) (by decide) (by decide)).trans e34)
              have e36 : M21 598 1 = v34 := ((w21_2 1 (by decide) (by decide)).trans e35)
              exact jr.ireturn rfl rfl rfl (q _ _ hI_M21 hH_M21 hS_M21  (by omega) (MC.fr (MC.fr hM (fun i => w1_4 652 i (by decide) (by decide) (by decide) (by decide) (by decide) (by decide) (by decide) (by decide) (by decide) (by decide) (by decide) (by decide) (by decide) (by decide) (by decide)) (fun i => w1_4 653 i (by decide) (by decide) (by decide) (by decide) (by decide) (by decide) (by decide) (by decide) (by decide) (by decide) (by decide) (by decide) (by decide) (by decide) (by decide)) (fun i => w1_4 654 i (by decide) (by decide) (by decide) (by decide) (by decide) (by decide) (by decide) (by decide) (by decide) (by decide) (by decide) (by decide) (by decide) (by decide) (by decide)) (fun i => w1_4 655 i (by decide) (by decide) (by decide) (by decide) (by decide) (by decide) (by decide) (by decide) (by decide) (by decide) (by decide) (by decide) (by decide) (by decide) (by decide)) (w1_5 82 (by decide) (by decide) (by decide) (by decide) (by decide) (by decide) (by decide) (by decide) (by decide) (by decide) (by decide) (by decide) (by decide) (by decide) (by decide) (by decide) (by decide))) (fun i => w21_1 652 i (by decide) (by decide)) (fun i => w21_1 653 i (by decide) (by decide)) (fun i => w21_1 654 i (by decide) (by decide)) (fun i => w21_1 655 i (by decide) (by decide)) (w21_2 82 (by decide) (by decide))) (by have hq : M21 598 1 = v34 := e36; omega) (fun a i f598 f651 f652 f653 f654 f655 f656 f657 f658 f659 f660 f661 f662 f663 f664 f665 f666 f667 f668 f669 => ((w21_1 a i f598 f660).trans ((w1_4 a i f598 f659 f660 f661 f662 f663 f664 f665 f666 f667 f668 f669 f656 f657 f658).trans (hF_M a i f598 f651 f652 f653 f654 f655 f656 f657 f658 f659 f660 f661 f662 f663 f664 f665 f666 f667 f668 f669)))) (fun i g1 g72 g73 g74 g75 g76 g77 g78 g79 g80 g81 g82 g83 g88 g89 g90 g96 g100 g101 g102 g107 => ((w21_2 i g80 g81).trans ((w1_5 i g73 g74 g75 g76 g77 g78 g79 g80 g81 g89 g90 g96 g100 g102 g107 g88 g101).trans (hG_M i g1 g72 g73 g74 g75 g76 g77 g78 g79 g80 g81 g82 g83 g88 g89 g90 g96 g100 g101 g102 g107)))))
          · exfalso
            omega
      · refine jr.if_eq rfl rfl (by omega) (fun _ => ?_) (fun h => absurd (by decide) h)
        refine jr.aload_n rfl rfl ?_
        obtain ⟨v37, e37⟩ : ∃ z, M1 598 80 = z := ⟨_, rfl⟩
        have b37 : 0 ≤ v37 ∧ v37 ≤ 7 := by rw [← e37]; exact hI_M1 598 80 (by decide)
        refine jr_v rfl rfl (Or.inl rfl) rfl rfl (by decide) rfl ⟨rfl, Nat.le_of_ble_eq_true rfl, Nat.le_of_ble_eq_true rfl⟩ rfl (jc.deep (c_good hI_M1  (fun t119_0 => ?_) (fun f119_0 => ?_)) (by decide))
        · exfalso
          omega
        · refine jr.if_eq rfl rfl (by omega) (fun _ => ?_) (fun h => absurd (by decide) h)
          refine jr.aload_n rfl rfl ?_
          refine jr_v rfl rfl (Or.inl rfl) rfl rfl (by decide) rfl ⟨rfl, Nat.le_of_ble_eq_true rfl, Nat.le_of_ble_eq_true rfl⟩ rfl (jc.deep (c_good hI_M1  (fun t130_0 => ?_) (fun f130_0 => ?_)) (by decide))
          · exfalso
            omega
          · refine jr.if_ne rfl rfl (by omega) (fun h => absurd h (by decide)) (fun _ => ?_)
            refine jr.bipush rfl (by decide) ?_
            refine jr.aload_n rfl rfl ?_
            refine jr.getf (i := 80) (x := v37) (v := .int (Int32.ofInt (v37))) rfl rfl (by decide) rfl (by decide) rfl rfl e37 rfl ?_
            refine jr.isub rfl ?_
            obtain ⟨v38, e38⟩ : ∃ z, M 598 1 = z := ⟨_, rfl⟩
            have b38 : 0 ≤ v38 ∧ v38 ≤ 1600 := by rw [← e38]; exact hI_M 598 1 (by decide)
            have e39 : M1 598 1 = v38 := ((w1_5 1 (by decide) (by decide) (by decide) (by decide) (by decide) (by decide) (by decide) (by decide) (by decide) (by decide) (by decide) (by decide) (by decide) (by decide) (by decide) (by decide) (by decide)).trans e38)
            exact jr.ireturn rfl rfl rfl (q _ _ hI_M1 hH_M1 hS_M1  (by omega) (MC.fr hM (fun i => w1_4 652 i (by decide) (by decide) (by decide) (by decide) (by decide) (by decide) (by decide) (by decide) (by decide) (by decide) (by decide) (by decide) (by decide) (by decide) (by decide)) (fun i => w1_4 653 i (by decide) (by decide) (by decide) (by decide) (by decide) (by decide) (by decide) (by decide) (by decide) (by decide) (by decide) (by decide) (by decide) (by decide) (by decide)) (fun i => w1_4 654 i (by decide) (by decide) (by decide) (by decide) (by decide) (by decide) (by decide) (by decide) (by decide) (by decide) (by decide) (by decide) (by decide) (by decide) (by decide)) (fun i => w1_4 655 i (by decide) (by decide) (by decide) (by decide) (by decide) (by decide) (by decide) (by decide) (by decide) (by decide) (by decide) (by decide) (by decide) (by decide) (by decide)) (w1_5 82 (by decide) (by decide) (by decide) (by decide) (by decide) (by decide) (by decide) (by decide) (by decide) (by decide) (by decide) (by decide) (by decide) (by decide) (by decide) (by decide) (by decide))) (by have hq : M1 598 1 = v38 := e39; omega) (fun a i f598 f651 f652 f653 f654 f655 f656 f657 f658 f659 f660 f661 f662 f663 f664 f665 f666 f667 f668 f669 => ((w1_4 a i f598 f659 f660 f661 f662 f663 f664 f665 f666 f667 f668 f669 f656 f657 f658).trans (hF_M a i f598 f651 f652 f653 f654 f655 f656 f657 f658 f659 f660 f661 f662 f663 f664 f665 f666 f667 f668 f669))) (fun i g1 g72 g73 g74 g75 g76 g77 g78 g79 g80 g81 g82 g83 g88 g89 g90 g96 g100 g101 g102 g107 => ((w1_5 i g73 g74 g75 g76 g77 g78 g79 g80 g81 g89 g90 g96 g100 g102 g107 g88 g101).trans (hG_M i g1 g72 g73 g74 g75 g76 g77 g78 g79 g80 g81 g82 g83 g88 g89 g90 g96 g100 g101 g102 g107))))
    · refine jr.if_eq rfl rfl (by omega) (fun _ => ?_) (fun h => absurd (by decide) h)
      refine jr.aload_n rfl rfl ?_
      refine jr_v rfl rfl (Or.inl rfl) rfl rfl (by decide) rfl ⟨rfl, Nat.le_of_ble_eq_true rfl, Nat.le_of_ble_eq_true rfl⟩ rfl (jc.deep (r_wrongToken hI_M hH_M hS_M    (fun M40 hI_M40 hH_M40 hS_M40  w40_0 w40_1 w40_2 => ?_)) (by decide))
      have tk40 : TK M40 = TK M := TK.fr (w40_2 73 (by decide) (by decide)) (w40_2 74 (by decide) (by decide))
      refine jr.aload_n rfl rfl ?_
      obtain ⟨v41, e41⟩ : ∃ z, M40 598 80 = z := ⟨_, rfl⟩
      have b41 : 0 ≤ v41 ∧ v41 ≤ 7 := by rw [← e41]; exact hI_M40 598 80 (by decide)
      refine jr_v rfl rfl (Or.inl rfl) rfl rfl (by decide) rfl ⟨rfl, Nat.le_of_ble_eq_true rfl, Nat.le_of_ble_eq_true rfl⟩ rfl (jc.deep (c_good hI_M40  (fun t105_0 => ?_) (fun f105_0 => ?_)) (by decide))
      · exfalso
        omega
      · refine jr.if_eq rfl rfl (by omega) (fun _ => ?_) (fun h => absurd (by decide) h)
        refine jr.aload_n rfl rfl ?_
        refine jr_v rfl rfl (Or.inl rfl) rfl rfl (by decide) rfl ⟨rfl, Nat.le_of_ble_eq_true rfl, Nat.le_of_ble_eq_true rfl⟩ rfl (jc.deep (c_good hI_M40  (fun t119_0 => ?_) (fun f119_0 => ?_)) (by decide))
        · exfalso
          omega
        · refine jr.if_eq rfl rfl (by omega) (fun _ => ?_) (fun h => absurd (by decide) h)
          refine jr.aload_n rfl rfl ?_
          refine jr_v rfl rfl (Or.inl rfl) rfl rfl (by decide) rfl ⟨rfl, Nat.le_of_ble_eq_true rfl, Nat.le_of_ble_eq_true rfl⟩ rfl (jc.deep (c_good hI_M40  (fun t130_0 => ?_) (fun f130_0 => ?_)) (by decide))
          · exfalso
            omega
          · refine jr.if_ne rfl rfl (by omega) (fun h => absurd h (by decide)) (fun _ => ?_)
            refine jr.bipush rfl (by decide) ?_
            refine jr.aload_n rfl rfl ?_
            refine jr.getf (i := 80) (x := v41) (v := .int (Int32.ofInt (v41))) rfl rfl (by decide) rfl (by decide) rfl rfl e41 rfl ?_
            refine jr.isub rfl ?_
            obtain ⟨v42, e42⟩ : ∃ z, M 598 1 = z := ⟨_, rfl⟩
            have b42 : 0 ≤ v42 ∧ v42 ≤ 1600 := by rw [← e42]; exact hI_M 598 1 (by decide)
            have e43 : M40 598 1 = v42 := ((w40_2 1 (by decide) (by decide)).trans e42)
            exact jr.ireturn rfl rfl rfl (q _ _ hI_M40 hH_M40 hS_M40  (by omega) (MC.fr hM (fun i => w40_1 652 i (by decide)) (fun i => w40_1 653 i (by decide)) (fun i => w40_1 654 i (by decide)) (fun i => w40_1 655 i (by decide)) (w40_2 82 (by decide) (by decide))) (by have hq : M40 598 1 = v42 := e43; omega) (fun a i f598 f651 f652 f653 f654 f655 f656 f657 f658 f659 f660 f661 f662 f663 f664 f665 f666 f667 f668 f669 => ((w40_1 a i f598).trans (hF_M a i f598 f651 f652 f653 f654 f655 f656 f657 f658 f659 f660 f661 f662 f663 f664 f665 f666 f667 f668 f669))) (fun i g1 g72 g73 g74 g75 g76 g77 g78 g79 g80 g81 g82 g83 g88 g89 g90 g96 g100 g101 g102 g107 => ((w40_2 i g80 g81).trans (hG_M i g1 g72 g73 g74 g75 g76 g77 g78 g79 g80 g81 g82 g83 g88 g89 g90 g96 g100 g101 g102 g107))))
theorem r_rules_L10_x {A : Nat → Option (Nat × (Nat → Int32))} {Q : Option Value → jm → Prop} {M0 : jm} (q : ∀ (r : Int) (M' : jm), RI M' → RH M' → RF M' → (-17) ≤ r ∧ r ≤ 16 → MC M' → M' 598 1 = 0 → (∀ (a : Nat) (i : Int), a ≠ 598 → a ≠ 651 → a ≠ 652 → a ≠ 653 → a ≠ 654 → a ≠ 655 → a ≠ 656 → a ≠ 657 → a ≠ 658 → a ≠ 659 → a ≠ 660 → a ≠ 661 → a ≠ 662 → a ≠ 663 → a ≠ 664 → a ≠ 665 → a ≠ 666 → a ≠ 667 → a ≠ 668 → a ≠ 669 → M' a i = M0 a i) → (∀ (i : Int), i ≠ 1 → i ≠ 72 → i ≠ 73 → i ≠ 74 → i ≠ 75 → i ≠ 76 → i ≠ 77 → i ≠ 78 → i ≠ 79 → i ≠ 80 → i ≠ 81 → i ≠ 82 → i ≠ 83 → i ≠ 88 → i ≠ 89 → i ≠ 90 → i ≠ 96 → i ≠ 100 → i ≠ 101 → i ≠ 102 → i ≠ 107 → M' 598 i = M0 598 i) → Q (some (.int (Int32.ofInt r))) M') : ∀ (nM : Nat) (M : jm) (k : Int), RI M → RH M → RF M → (∀ (a : Nat) (i : Int), a ≠ 598 → a ≠ 651 → a ≠ 652 → a ≠ 653 → a ≠ 654 → a ≠ 655 → a ≠ 656 → a ≠ 657 → a ≠ 658 → a ≠ 659 → a ≠ 660 → a ≠ 661 → a ≠ 662 → a ≠ 663 → a ≠ 664 → a ≠ 665 → a ≠ 666 → a ≠ 667 → a ≠ 668 → a ≠ 669 → M a i = M0 a i) → (∀ (i : Int), i ≠ 1 → i ≠ 72 → i ≠ 73 → i ≠ 74 → i ≠ 75 → i ≠ 76 → i ≠ 77 → i ≠ 78 → i ≠ 79 → i ≠ 80 → i ≠ 81 → i ≠ 82 → i ≠ 83 → i ≠ 88 → i ≠ 89 → i ≠ 90 → i ≠ 96 → i ≠ 100 → i ≠ 101 → i ≠ 102 → i ≠ 107 → M 598 i = M0 598 i) → 0 ≤ k ∧ k ≤ 1600 → M 598 72 = M 598 1 → MC M → FWq (M 650) → 1600 - k ≤ nM → jr A 9 xm_371 10 [(1, .int (Int32.ofInt (k))), (0, .ref (598))] [] M Q := by
  intro nM
  induction nM using Nat.strongRecOn with
  | ind nM ih =>
    intro M k hI_M hH_M hS_M hF_M hG_M h_k hy0 hy1 hy2 hm
    have hM := hy1
    have hF := hy2
    refine jr.iload_n rfl rfl ?_
    refine jr.aload_n rfl rfl ?_
    obtain ⟨v1, e1⟩ : ∃ z, M 598 1 = z := ⟨_, rfl⟩
    have b1 : 0 ≤ v1 ∧ v1 ≤ 1600 := by rw [← e1]; exact hI_M 598 1 (by decide)
    refine jr.getf (i := 1) (x := v1) (v := .int (Int32.ofInt (v1))) rfl rfl (by decide) rfl (by decide) rfl rfl e1 rfl ?_
    refine jr.icmp_ge rfl rfl (by omega) (by omega) (fun h15 => ?_) (fun h15 => ?_)
    · refine jr.aload_n rfl rfl ?_
      refine jr.iconst rfl ?_
      refine jr.putf (i := 1) (x := 0) rfl rfl (by decide) rfl (by decide) rfl rfl rfl rfl rfl ?_
      refine jr.aload_n rfl rfl ?_
      refine jr.iconst rfl ?_
      refine jr.putf (i := 73) (x := 0) rfl rfl (by decide) rfl (by decide) rfl rfl rfl rfl rfl ?_
      refine jr.aload_n rfl rfl ?_
      refine jr.iconst rfl ?_
      refine jr.putf (i := 80) (x := 0) rfl rfl (by decide) rfl (by decide) rfl rfl rfl rfl rfl ?_
      refine jr.aload_n rfl rfl ?_
      refine jr.iconst rfl ?_
      refine jr.putf (i := 81) (x := (-1)) rfl rfl (by decide) rfl (by decide) rfl rfl rfl rfl rfl ?_
      refine jr.aload_n rfl rfl ?_
      refine jr.iconst rfl ?_
      refine jr.putf (i := 88) (x := 0) rfl rfl (by decide) rfl (by decide) rfl rfl rfl rfl rfl ?_
      refine jr.aload_n rfl rfl ?_
      refine jr.iconst rfl ?_
      refine jr.putf (i := 89) (x := 0) rfl rfl (by decide) rfl (by decide) rfl rfl rfl rfl rfl ?_
      refine jr.aload_n rfl rfl ?_
      refine jr.iconst rfl ?_
      refine jr.putf (i := 90) (x := 0) rfl rfl (by decide) rfl (by decide) rfl rfl rfl rfl rfl ?_
      refine jr.aload_n rfl rfl ?_
      refine jr.iconst rfl ?_
      refine jr.putf (i := 96) (x := 0) rfl rfl (by decide) rfl (by decide) rfl rfl rfl rfl rfl ?_
      refine jr.aload_n rfl rfl ?_
      refine jr.iconst rfl ?_
      refine jr.putf (i := 107) (x := 0) rfl rfl (by decide) rfl (by decide) rfl rfl rfl rfl rfl ?_
      refine jr.aload_n rfl rfl ?_
      obtain ⟨v3, e3⟩ : ∃ z, M 598 72 = z := ⟨_, rfl⟩
      have b3 : 0 ≤ v3 ∧ v3 ≤ 1600 := by rw [← e3]; exact hI_M 598 72 (by decide)
      obtain ⟨v5, e5⟩ : ∃ z, M 598 74 = z := ⟨_, rfl⟩
      have b5 : 0 ≤ v5 ∧ v5 ≤ 4 := by rw [← e5]; exact hI_M 598 74 (by decide)
      obtain ⟨v8, e8⟩ : ∃ z, M 598 100 = z := ⟨_, rfl⟩
      have b8 : 0 ≤ v8 ∧ v8 ≤ 13 := by rw [← e8]; exact hI_M 598 100 (by decide)
      refine jr_v rfl rfl (Or.inl rfl) rfl rfl (by decide) rfl ⟨rfl, Nat.le_of_ble_eq_true rfl, Nat.le_of_ble_eq_true rfl⟩ rfl (jc.deep (r_next (RI.u (RI.u (RI.u (RI.u (RI.u (RI.u (RI.u (RI.u (RI.u hI_M (a := 598) (i := 1) (show (0 : Int) ≤ _ ∧ _ ≤ (1600 : Int) from by omega)) (a := 598) (i := 73) (show (0 : Int) ≤ _ ∧ _ ≤ (1600 : Int) from by omega)) (a := 598) (i := 80) (show (0 : Int) ≤ _ ∧ _ ≤ (7 : Int) from by omega)) (a := 598) (i := 81) (show (-1 : Int) ≤ _ ∧ _ ≤ (1600 : Int) from by omega)) (a := 598) (i := 88) (show (0 : Int) ≤ _ ∧ _ ≤ (16 : Int) from by omega)) (a := 598) (i := 89) (show (0 : Int) ≤ _ ∧ _ ≤ (301 : Int) from by omega)) (a := 598) (i := 90) (show (0 : Int) ≤ _ ∧ _ ≤ (2200 : Int) from by omega)) (a := 598) (i := 96) (show (0 : Int) ≤ _ ∧ _ ≤ (300 : Int) from by omega)) (a := 598) (i := 107) (show (0 : Int) ≤ _ ∧ _ ≤ (16 : Int) from by omega)) (RH.o (RH.o (RH.o (RH.o (RH.o (RH.o (RH.o (RH.o (RH.o hH_M (by decide) (by decide) (by decide)) (by decide) (by decide) (by decide)) (by decide) (by decide) (by decide)) (by decide) (by decide) (by decide)) (by decide) (by decide) (by decide)) (by decide) (by decide) (by decide)) (by decide) (by decide) (by decide)) (by decide) (by decide) (by decide)) (by decide) (by decide) (by decide)) (RF.o (RF.o (RF.o (RF.o (RF.o (RF.o (RF.o (RF.o (RF.o hS_M (by decide) (by decide)) (by decide) (by decide)) (by decide) (by decide)) (by decide) (by decide)) (by decide) (by decide)) (by decide) (by decide)) (by decide) (by decide)) (by decide) (by decide)) (by decide) (by decide))   (by rw [((ju_i _ _ (by decide)).trans ((ju_i _ _ (by decide)).trans ((ju_i _ _ (by decide)).trans ((ju_i _ _ (by decide)).trans ((ju_i _ _ (by decide)).trans ((ju_i _ _ (by decide)).trans ((ju_i _ _ (by decide)).trans (ju_same _ _ _ _)))))))), ((ju_i _ _ (by decide)).trans ((ju_i _ _ (by decide)).trans ((ju_i _ _ (by decide)).trans ((ju_i _ _ (by decide)).trans ((ju_i _ _ (by decide)).trans ((ju_i _ _ (by decide)).trans ((ju_i _ _ (by decide)).trans ((ju_i _ _ (by decide)).trans ((ju_i _ _ (by decide)).trans e3)))))))))]; omega) (fun M2 hI_M2 hH_M2 hS_M2  w2_0 w2_1 w2_2 w2_3 w2_4 w2_5 w2_6 => ?_)) (by decide))
      have y17 : (ju (ju (ju (ju (ju (ju (ju (ju (ju M 598 1 0) 598 73 0) 598 80 0) 598 81 (-1)) 598 88 0) 598 89 0) 598 90 0) 598 96 0) 598 107 0) 598 73 = 0 := ((ju_i _ _ (by decide)).trans ((ju_i _ _ (by decide)).trans ((ju_i _ _ (by decide)).trans ((ju_i _ _ (by decide)).trans ((ju_i _ _ (by decide)).trans ((ju_i _ _ (by decide)).trans ((ju_i _ _ (by decide)).trans (ju_same _ _ _ _))))))))
      have y18 : (ju (ju (ju (ju (ju (ju (ju (ju (ju M 598 1 0) 598 73 0) 598 80 0) 598 81 (-1)) 598 88 0) 598 89 0) 598 90 0) 598 96 0) 598 107 0) 598 74 = v5 := ((ju_i _ _ (by decide)).trans ((ju_i _ _ (by decide)).trans ((ju_i _ _ (by decide)).trans ((ju_i _ _ (by decide)).trans ((ju_i _ _ (by decide)).trans ((ju_i _ _ (by decide)).trans ((ju_i _ _ (by decide)).trans ((ju_i _ _ (by decide)).trans ((ju_i _ _ (by decide)).trans e5)))))))))
      have hX := XS.init (M := (ju (ju (ju (ju (ju (ju (ju (ju (ju M 598 1 0) 598 73 0) 598 80 0) 598 81 (-1)) 598 88 0) 598 89 0) 598 90 0) 598 96 0) 598 107 0)) (by rw [jw_o (by decide), jw_o (by decide), jw_o (by decide), jw_o (by decide), jw_o (by decide), jw_o (by decide), jw_o (by decide), jw_o (by decide), jw_o (by decide)]; exact hF) (((ju_i _ _ (by decide)).trans ((ju_i _ _ (by decide)).trans ((ju_i _ _ (by decide)).trans ((ju_i _ _ (by decide)).trans (ju_same _ _ _ _)))))) (((ju_i _ _ (by decide)).trans ((ju_i _ _ (by decide)).trans (ju_same _ _ _ _)))) ((ju_same _ _ _ _)) (Int.le_of_eq (((ju_i _ _ (by decide)).trans ((ju_i _ _ (by decide)).trans ((ju_i _ _ (by decide)).trans (ju_same _ _ _ _))))).symm) (Int.le_of_eq (((ju_i _ _ (by decide)).trans ((ju_i _ _ (by decide)).trans ((ju_i _ _ (by decide)).trans ((ju_i _ _ (by decide)).trans ((ju_i _ _ (by decide)).trans ((ju_i _ _ (by decide)).trans ((ju_i _ _ (by decide)).trans (ju_same _ _ _ _))))))))).symm)
      have hA := AK.zero (M := (ju (ju (ju (ju (ju (ju (ju (ju (ju M 598 1 0) 598 73 0) 598 80 0) 598 81 (-1)) 598 88 0) 598 89 0) 598 90 0) 598 96 0) 598 107 0)) (((ju_i _ _ (by decide)).trans (ju_same _ _ _ _)))
      have hB : LB (ju (ju (ju (ju (ju (ju (ju (ju (ju M 598 1 0) 598 73 0) 598 80 0) 598 81 (-1)) 598 88 0) 598 89 0) 598 90 0) 598 96 0) 598 107 0) := Or.inl (((ju_i _ _ (by decide)).trans ((ju_i _ _ (by decide)).trans (ju_same _ _ _ _))))
      have y4 : (ju (ju (ju (ju (ju (ju (ju (ju (ju M 598 1 0) 598 73 0) 598 80 0) 598 81 (-1)) 598 88 0) 598 89 0) 598 90 0) 598 96 0) 598 107 0) 598 73 = 0 := ((ju_i _ _ (by decide)).trans ((ju_i _ _ (by decide)).trans ((ju_i _ _ (by decide)).trans ((ju_i _ _ (by decide)).trans ((ju_i _ _ (by decide)).trans ((ju_i _ _ (by decide)).trans ((ju_i _ _ (by decide)).trans (ju_same _ _ _ _))))))))
      have y6 : (ju (ju (ju (ju (ju (ju (ju (ju (ju M 598 1 0) 598 73 0) 598 80 0) 598 81 (-1)) 598 88 0) 598 89 0) 598 90 0) 598 96 0) 598 107 0) 598 74 = v5 := ((ju_i _ _ (by decide)).trans ((ju_i _ _ (by decide)).trans ((ju_i _ _ (by decide)).trans ((ju_i _ _ (by decide)).trans ((ju_i _ _ (by decide)).trans ((ju_i _ _ (by decide)).trans ((ju_i _ _ (by decide)).trans ((ju_i _ _ (by decide)).trans ((ju_i _ _ (by decide)).trans e5)))))))))
      have y7 : (ju (ju (ju (ju (ju (ju (ju (ju (ju M 598 1 0) 598 73 0) 598 80 0) 598 81 (-1)) 598 88 0) 598 89 0) 598 90 0) 598 96 0) 598 107 0) 598 89 = 0 := ((ju_i _ _ (by decide)).trans ((ju_i _ _ (by decide)).trans ((ju_i _ _ (by decide)).trans (ju_same _ _ _ _))))
      have y9 : (ju (ju (ju (ju (ju (ju (ju (ju (ju M 598 1 0) 598 73 0) 598 80 0) 598 81 (-1)) 598 88 0) 598 89 0) 598 90 0) 598 96 0) 598 107 0) 598 100 = v8 := ((ju_i _ _ (by decide)).trans ((ju_i _ _ (by decide)).trans ((ju_i _ _ (by decide)).trans ((ju_i _ _ (by decide)).trans ((ju_i _ _ (by decide)).trans ((ju_i _ _ (by decide)).trans ((ju_i _ _ (by decide)).trans ((ju_i _ _ (by decide)).trans ((ju_i _ _ (by decide)).trans e8)))))))))
      have y10 : (ju (ju (ju (ju (ju (ju (ju (ju (ju M 598 1 0) 598 73 0) 598 80 0) 598 81 (-1)) 598 88 0) 598 89 0) 598 90 0) 598 96 0) 598 107 0) 598 96 = 0 := ((ju_i _ _ (by decide)).trans (ju_same _ _ _ _))
      have y11 : (ju (ju (ju (ju (ju (ju (ju (ju (ju M 598 1 0) 598 73 0) 598 80 0) 598 81 (-1)) 598 88 0) 598 89 0) 598 90 0) 598 96 0) 598 107 0) 598 90 = 0 := ((ju_i _ _ (by decide)).trans ((ju_i _ _ (by decide)).trans (ju_same _ _ _ _)))
      have y12 : (ju (ju (ju (ju (ju (ju (ju (ju (ju M 598 1 0) 598 73 0) 598 80 0) 598 81 (-1)) 598 88 0) 598 89 0) 598 90 0) 598 96 0) 598 107 0) 598 107 = 0 := (ju_same _ _ _ _)
      have y13 : (ju (ju (ju (ju (ju (ju (ju (ju (ju M 598 1 0) 598 73 0) 598 80 0) 598 81 (-1)) 598 88 0) 598 89 0) 598 90 0) 598 96 0) 598 107 0) 598 73 = 0 := ((ju_i _ _ (by decide)).trans ((ju_i _ _ (by decide)).trans ((ju_i _ _ (by decide)).trans ((ju_i _ _ (by decide)).trans ((ju_i _ _ (by decide)).trans ((ju_i _ _ (by decide)).trans ((ju_i _ _ (by decide)).trans (ju_same _ _ _ _))))))))
      have y14 : (ju (ju (ju (ju (ju (ju (ju (ju (ju M 598 1 0) 598 73 0) 598 80 0) 598 81 (-1)) 598 88 0) 598 89 0) 598 90 0) 598 96 0) 598 107 0) 598 74 = v5 := ((ju_i _ _ (by decide)).trans ((ju_i _ _ (by decide)).trans ((ju_i _ _ (by decide)).trans ((ju_i _ _ (by decide)).trans ((ju_i _ _ (by decide)).trans ((ju_i _ _ (by decide)).trans ((ju_i _ _ (by decide)).trans ((ju_i _ _ (by decide)).trans ((ju_i _ _ (by decide)).trans e5)))))))))
      have y15 : (ju (ju (ju (ju (ju (ju (ju (ju (ju M 598 1 0) 598 73 0) 598 80 0) 598 81 (-1)) 598 88 0) 598 89 0) 598 90 0) 598 96 0) 598 107 0) 598 89 = 0 := ((ju_i _ _ (by decide)).trans ((ju_i _ _ (by decide)).trans ((ju_i _ _ (by decide)).trans (ju_same _ _ _ _))))
      have y16 : (ju (ju (ju (ju (ju (ju (ju (ju (ju M 598 1 0) 598 73 0) 598 80 0) 598 81 (-1)) 598 88 0) 598 89 0) 598 90 0) 598 96 0) 598 107 0) 598 100 = v8 := ((ju_i _ _ (by decide)).trans ((ju_i _ _ (by decide)).trans ((ju_i _ _ (by decide)).trans ((ju_i _ _ (by decide)).trans ((ju_i _ _ (by decide)).trans ((ju_i _ _ (by decide)).trans ((ju_i _ _ (by decide)).trans ((ju_i _ _ (by decide)).trans ((ju_i _ _ (by decide)).trans e8)))))))))
      have x2_89 := w2_6 89 (by decide) (by decide) (by decide) (by decide) (by decide) (by decide) (by decide)
      have x2_100 := w2_6 100 (by decide) (by decide) (by decide) (by decide) (by decide) (by decide) (by decide)
      have hX := XS.fr2 hX w2_5 (w2_6 88 (by decide) (by decide) (by decide) (by decide) (by decide) (by decide) (by decide)) (w2_6 90 (by decide) (by decide) (by decide) (by decide) (by decide) (by decide) (by decide)) (w2_6 101 (by decide) (by decide) (by decide) (by decide) (by decide) (by decide) (by decide)) (w2_6 107 (by decide) (by decide) (by decide) (by decide) (by decide) (by decide) (by decide)) (k' := 0) (d' := (M2 598 100)) (z' := 1) (by omega) (by omega) (by omega) (by omega)
      have hA := AK.cp hA (CP.f (CP.rfl _) (fun i => w2_5 659 i (by decide)) (w2_6 90 (by decide) (by decide) (by decide) (by decide) (by decide) (by decide) (by decide))) (fun i => w2_5 663 i (by decide)) (w2_6 96 (by decide) (by decide) (by decide) (by decide) (by decide) (by decide) (by decide))
      have hB := LB.fr hB (fun i => w2_5 659 i (by decide)) (w2_6 90 (by decide) (by decide) (by decide) (by decide) (by decide) (by decide) (by decide))
      have e19 : M2 598 80 = 0 := ((w2_6 80 (by decide) (by decide) (by decide) (by decide) (by decide) (by decide) (by decide)).trans ((ju_i _ _ (by decide)).trans ((ju_i _ _ (by decide)).trans ((ju_i _ _ (by decide)).trans ((ju_i _ _ (by decide)).trans ((ju_i _ _ (by decide)).trans ((ju_i _ _ (by decide)).trans (ju_same _ _ _ _))))))))
      have e20 : M2 598 96 = 0 := ((w2_6 96 (by decide) (by decide) (by decide) (by decide) (by decide) (by decide) (by decide)).trans ((ju_i _ _ (by decide)).trans (ju_same _ _ _ _)))
      have e21 : M2 598 89 = 0 := ((w2_6 89 (by decide) (by decide) (by decide) (by decide) (by decide) (by decide) (by decide)).trans ((ju_i _ _ (by decide)).trans ((ju_i _ _ (by decide)).trans ((ju_i _ _ (by decide)).trans (ju_same _ _ _ _)))))
      have e22 : M2 598 107 = 0 := ((w2_6 107 (by decide) (by decide) (by decide) (by decide) (by decide) (by decide) (by decide)).trans (ju_same _ _ _ _))
      obtain ⟨v23, e23⟩ : ∃ z, M2 598 73 = z := ⟨_, rfl⟩
      have b23 : 0 ≤ v23 ∧ v23 ≤ 1600 := by rw [← e23]; exact hI_M2 598 73 (by decide)
      have e24 : M2 598 72 = v3 := ((w2_6 72 (by decide) (by decide) (by decide) (by decide) (by decide) (by decide) (by decide)).trans ((ju_i _ _ (by decide)).trans ((ju_i _ _ (by decide)).trans ((ju_i _ _ (by decide)).trans ((ju_i _ _ (by decide)).trans ((ju_i _ _ (by decide)).trans ((ju_i _ _ (by decide)).trans ((ju_i _ _ (by decide)).trans ((ju_i _ _ (by decide)).trans ((ju_i _ _ (by decide)).trans e3))))))))))
      obtain ⟨v25, e25⟩ : ∃ z, M2 598 74 = z := ⟨_, rfl⟩
      have b25 : 0 ≤ v25 ∧ v25 ≤ 4 := by rw [← e25]; exact hI_M2 598 74 (by decide)
      obtain ⟨v26, e26⟩ : ∃ z, M2 598 79 = z := ⟨_, rfl⟩
      have b26 : 0 ≤ v26 ∧ v26 ≤ 255 := by rw [← e26]; exact hI_M2 598 79 (by decide)
      have e27 : M2 598 1 = 0 := ((w2_6 1 (by decide) (by decide) (by decide) (by decide) (by decide) (by decide) (by decide)).trans ((ju_i _ _ (by decide)).trans ((ju_i _ _ (by decide)).trans ((ju_i _ _ (by decide)).trans ((ju_i _ _ (by decide)).trans ((ju_i _ _ (by decide)).trans ((ju_i _ _ (by decide)).trans ((ju_i _ _ (by decide)).trans ((ju_i _ _ (by decide)).trans (ju_same _ _ _ _))))))))))
      refine jr.pick [1] rfl rfl ?_
      exact r_rules_L85_x q 3201 M2  hI_M2 hH_M2 hS_M2  (fun a i f598 f651 f652 f653 f654 f655 f656 f657 f658 f659 f660 f661 f662 f663 f664 f665 f666 f667 f668 f669 => ((w2_5 a i f598).trans ((ju_c _ _ f598).trans ((ju_c _ _ f598).trans ((ju_c _ _ f598).trans ((ju_c _ _ f598).trans ((ju_c _ _ f598).trans ((ju_c _ _ f598).trans ((ju_c _ _ f598).trans ((ju_c _ _ f598).trans ((ju_c _ _ f598).trans (hF_M a i f598 f651 f652 f653 f654 f655 f656 f657 f658 f659 f660 f661 f662 f663 f664 f665 f666 f667 f668 f669)))))))))))) (fun i g1 g72 g73 g74 g75 g76 g77 g78 g79 g80 g81 g82 g83 g88 g89 g90 g96 g100 g101 g102 g107 => ((w2_6 i g73 g74 g75 g76 g77 g78 g79).trans ((ju_i _ _ g107).trans ((ju_i _ _ g96).trans ((ju_i _ _ g90).trans ((ju_i _ _ g89).trans ((ju_i _ _ g88).trans ((ju_i _ _ g81).trans ((ju_i _ _ g80).trans ((ju_i _ _ g73).trans ((ju_i _ _ g1).trans (hG_M i g1 g72 g73 g74 g75 g76 g77 g78 g79 g80 g81 g82 g83 g88 g89 g90 g96 g100 g101 g102 g107))))))))))))  hX hA hB (by rw [e19] <;> omega) (by rw [e20, e21, e22] <;> omega) (by rw [e23, e24] <;> omega) (by rw [e25, e26] <;> omega) (MC.fr (MC.o (MC.o (MC.o (MC.o (MC.o (MC.o (MC.o (MC.o (MC.o hM (by decide) (Or.inr (by decide))) (by decide) (Or.inr (by decide))) (by decide) (Or.inr (by decide))) (by decide) (Or.inr (by decide))) (by decide) (Or.inr (by decide))) (by decide) (Or.inr (by decide))) (by decide) (Or.inr (by decide))) (by decide) (Or.inr (by decide))) (by decide) (Or.inr (by decide))) (fun i => w2_5 652 i (by decide)) (fun i => w2_5 653 i (by decide)) (fun i => w2_5 654 i (by decide)) (fun i => w2_5 655 i (by decide)) (w2_6 82 (by decide) (by decide) (by decide) (by decide) (by decide) (by decide) (by decide))) (by rw [e27] <;> omega) (by have t := TK.le (M := M2) (by omega); omega)
    · refine jr.aload_n rfl rfl ?_
      refine jr.getf (i := 71) (v := .ref 651) rfl rfl (by decide) rfl (by decide) rfl rfl rfl rfl ?_
      refine jr.iload_n rfl rfl ?_
      refine jr.aload_n rfl rfl ?_
      refine jr.getf (i := 0) (v := .ref 599) rfl rfl (by decide) rfl (by decide) rfl rfl rfl rfl ?_
      refine jr.iload_n rfl rfl ?_
      obtain ⟨v28, e28⟩ : ∃ z, M 599 k = z := ⟨_, rfl⟩
      have b28 : 0 ≤ v28 ∧ v28 ≤ 255 := by rw [← e28]; exact (by have q := hI_M 599 k (by decide); rw [xri_row rfl rfl] at q; exact q)
      refine jr.iald (i := k) (x := v28) rfl (by decide) rfl (by decide) (by omega) (by omega) e28 ?_
      refine jr.iast (i := k) (x := v28) rfl (by decide) rfl (by decide) (by omega) (by omega) ?_
      refine jr.iinc rfl rfl (by decide) rfl ?_
      refine jr.goto rfl rfl ?_
      obtain ⟨v29, e29⟩ : ∃ z, M 598 72 = z := ⟨_, rfl⟩
      have b29 : 0 ≤ v29 ∧ v29 ≤ 1600 := by rw [← e29]; exact hI_M 598 72 (by decide)
      refine jr.pick [0, 1] rfl rfl ?_
      exact ih (nM - 1) (by omega) (ju M 651 k v28) (k + 1) (RI.u hI_M (a := 651) (i := k) (by rw [xri_row rfl rfl]; show (0 : Int) ≤ _ ∧ _ ≤ (255 : Int); omega)) (RH.o hH_M (by decide) (by decide) (by decide)) (RF.o hS_M (by decide) (by decide))  (fun a i f598 f651 f652 f653 f654 f655 f656 f657 f658 f659 f660 f661 f662 f663 f664 f665 f666 f667 f668 f669 => ((ju_c _ _ f651).trans (hF_M a i f598 f651 f652 f653 f654 f655 f656 f657 f658 f659 f660 f661 f662 f663 f664 f665 f666 f667 f668 f669))) (fun i g1 g72 g73 g74 g75 g76 g77 g78 g79 g80 g81 g82 g83 g88 g89 g90 g96 g100 g101 g102 g107 => ((ju_c _ _ (by decide)).trans (hG_M i g1 g72 g73 g74 g75 g76 g77 g78 g79 g80 g81 g82 g83 g88 g89 g90 g96 g100 g101 g102 g107))) (by omega) (by rw [((ju_c _ _ (by decide)).trans e29), ((ju_c _ _ (by decide)).trans e1)] <;> omega) (MC.o hM (by decide) (Or.inl (by decide))) (by rw [jw_o (by decide)]; exact hF) (by omega)
theorem r_rules_x {A : Nat → Option (Nat × (Nat → Int32))} {Q : Option Value → jm → Prop} {M : jm} (hI_M : RI M) (hH_M : RH M) (hS_M : RF M) (p0 : MC M) (p1 : FWq (M 650)) (q : ∀ (r : Int) (M' : jm), RI M' → RH M' → RF M' → (-17) ≤ r ∧ r ≤ 16 → MC M' → M' 598 1 = 0 → (∀ (a : Nat) (i : Int), a ≠ 598 → a ≠ 651 → a ≠ 652 → a ≠ 653 → a ≠ 654 → a ≠ 655 → a ≠ 656 → a ≠ 657 → a ≠ 658 → a ≠ 659 → a ≠ 660 → a ≠ 661 → a ≠ 662 → a ≠ 663 → a ≠ 664 → a ≠ 665 → a ≠ 666 → a ≠ 667 → a ≠ 668 → a ≠ 669 → M' a i = M a i) → (∀ (i : Int), i ≠ 1 → i ≠ 72 → i ≠ 73 → i ≠ 74 → i ≠ 75 → i ≠ 76 → i ≠ 77 → i ≠ 78 → i ≠ 79 → i ≠ 80 → i ≠ 81 → i ≠ 82 → i ≠ 83 → i ≠ 88 → i ≠ 89 → i ≠ 90 → i ≠ 96 → i ≠ 100 → i ≠ 101 → i ≠ 102 → i ≠ 107 → M' 598 i = M 598 i) → Q (some (.int (Int32.ofInt r))) M') : jc A 10 371 [.ref (598)] M Q := by
  have hM := p0
  have hF := p1
  refine jc_of (m := xm_371) rfl (Nat.le_of_ble_eq_true rfl) rfl ?_
  refine jr.aload_n rfl rfl ?_
  refine jr.aload_n rfl rfl ?_
  obtain ⟨v1, e1⟩ : ∃ z, M 598 1 = z := ⟨_, rfl⟩
  have b1 : 0 ≤ v1 ∧ v1 ≤ 1600 := by rw [← e1]; exact hI_M 598 1 (by decide)
  refine jr.getf (i := 1) (x := v1) (v := .int (Int32.ofInt (v1))) rfl rfl (by decide) rfl (by decide) rfl rfl e1 rfl ?_
  refine jr.putf (i := 72) (x := v1) rfl rfl (by decide) rfl (by decide) rfl rfl rfl rfl rfl ?_
  refine jr.iconst rfl ?_
  refine jr.istore_n rfl (by decide) rfl ?_
  refine jr.pick [0, 1] rfl rfl ?_
  exact r_rules_L10_x q 1600 (ju M 598 72 v1) 0 (RI.u hI_M (a := 598) (i := 72) (show (0 : Int) ≤ _ ∧ _ ≤ (1600 : Int) from by omega)) (RH.o hH_M (by decide) (by decide) (by decide)) (RF.o hS_M (by decide) (by decide))  (fun a i f598 f651 f652 f653 f654 f655 f656 f657 f658 f659 f660 f661 f662 f663 f664 f665 f666 f667 f668 f669 => ((ju_c _ _ f598).trans rfl)) (fun i g1 g72 g73 g74 g75 g76 g77 g78 g79 g80 g81 g82 g83 g88 g89 g90 g96 g100 g101 g102 g107 => ((ju_i _ _ g72).trans rfl)) (by omega) (by rw [(ju_same _ _ _ _), ((ju_i _ _ (by decide)).trans e1)] <;> omega) (MC.o hM (by decide) (Or.inr (by decide))) (by rw [jw_o (by decide)]; exact hF) (by omega)
end
section
/-! ===== what both sides keep between the law's calls ===== -/
noncomputable def CV (M : jm) (L S : Int) : Prop := CI M ∧ LC M L ∧ PC M ∧ M 413 2 ≠ M 421 2 ∧ M 421 4 = 0 ∧ M 0 8 = S
noncomputable def X7 (M : jm) : Prop := ∀ i : Int, 0 ≤ i → i < 100 → M 647 i = xcv_5 i
noncomputable def RV (M : jm) (L S : Int) : Prop := RI M ∧ RH M ∧ RF M ∧ RG1 M ∧ FWq (M 650) ∧ MC M ∧ AS M L ∧ M 598 2 = S ∧ X7 M
theorem X7.fr {M M' : jm} (h : X7 M) (e : ∀ i : Int, M' 647 i = M 647 i) : X7 M' := fun i i0 i1 => (e i).trans (h i i0 i1)
theorem kd_hi {a : Nat} (h : 598 ≤ a) : kd a = 0 := by
  unfold kd
  rw [blt_f h]
  rfl
theorem rG_hi {a : Nat} (h : rG a = true) : 598 ≤ a := by
  cases hb : Nat.blt a 598 with
  | false =>
    rcases Nat.lt_or_ge a 598 with q | q
    · rw [Nat.blt_eq.mpr q] at hb
      exact absurd hb (by decide)
    · exact q
  | true =>
    have q := Nat.blt_eq.mp hb
    have e : ∀ k, 598 ≤ k → Nat.beq a k = false := fun k hk => by
      cases hq : Nat.beq a k with
      | false => rfl
      | true => have := Nat.eq_of_beq_eq_true hq; omega
    unfold rG at h
    rw [e 606 (by decide), e 607 (by decide), e 613 (by decide), e 617 (by decide), e 618 (by decide), e 619 (by decide), e 620 (by decide), e 621 (by decide)] at h
    exact absurd h (by decide)
theorem RV.tr {M M' : jm} {L S : Int} (h : RV M L S) (e : ∀ (a : Nat) (i : Int), 598 ≤ a → M' a i = M a i) : RV M' L S := by
  obtain ⟨h1, h2, h3, h4, h5, h6, h7, h8, h9⟩ := h
  exact ⟨fun a i ha => by rw [e a i ha]; exact h1 a i ha, fun j => by rw [e 603 j (by decide), e 604 j (by decide), e 605 j (by decide)]; exact h2 j, RF.fr h3 (fun f => e 629 f (by decide)) (fun f => e 638 f (by decide)), RG1.fr h4 (fun a i ha => e a i (rG_hi ha)), by rw [show M' 650 = M 650 from funext (fun i => e 650 i (by decide))]; exact h5, MC.fr h6 (fun i => e 652 i (by decide)) (fun i => e 653 i (by decide)) (fun i => e 654 i (by decide)) (fun i => e 655 i (by decide)) (e 598 82 (by decide)), AS.fr h7 (fun i => e 685 i (by decide)) (e 598 112 (by decide)), (e 598 2 (by decide)).trans h8, h9.fr (fun i => e 647 i (by decide))⟩
theorem CV.z {M M' : jm} {L S : Int} (h : CV M L S) (e : ∀ (a : Nat) (i : Int), a < 598 → M' a i = M a i) : CV M' L S := by
  obtain ⟨h1, h2, h4, h5, h6, h7⟩ := h
  have f : FR [(0, 1000)] M M' := fun a i hk => e a i (kd_lt (fun q => by
    rw [q] at hk
    have t : kw [(0, 1000)] 0 i = true := rfl
    rw [t] at hk
    exact absurd hk (by decide)))
  exact ⟨⟨fun a i ha => by rw [e a i (kd_lt ha)]; exact h1.1 a i ha, fun a i ha => by rw [e a i (kd_lt (fun q => ha (by rw [q]; rfl)))]; exact h1.2 a i ha⟩, h2.fr f rfl, h4.fr h1 f rfl, by rw [e 413 2 (by decide), e 421 2 (by decide)]; exact h5, (e 421 4 (by decide)).trans h6, (e 0 8 (by decide)).trans h7⟩
theorem CV.le {M : jm} {L L' S : Int} (h : CV M L S) (hl : L ≤ L') : CV M L' S := ⟨h.1, h.2.1.le hl, h.2.2⟩
theorem RV.le {M : jm} {L L' S : Int} (h : RV M L S) (hl : L ≤ L') : RV M L' S := ⟨h.1, h.2.1, h.2.2.1, h.2.2.2.1, h.2.2.2.2.1, h.2.2.2.2.2.1, h.2.2.2.2.2.2.1.up hl, h.2.2.2.2.2.2.2⟩
/-- the reference's cells alone -/
theorem RDA.rr {C R S : jm} (h : RDA C R) (hG : RG1 R) (hI : RI R) (e : ∀ (a : Nat) (i : Int), 598 ≤ a → S a i = R a i) : RDA C S :=
  ⟨h.1.r (fun i => e 599 i (by decide)) (e 598 1 (by decide)), h.2.1.r (fun a i h0 _ => e a i (by omega)), h.2.2.1.r (fun i _ _ => e 598 i (by decide)), h.2.2.2.1.r (fun i => e 622 i (by decide)) (e 598 34 (by decide)), h.2.2.2.2.1.r (fun a i h0 _ => e a i (by omega)), h.2.2.2.2.2.1.r (fun a i h0 _ => e a i (by omega)), h.2.2.2.2.2.2.r hG hI (fun a i h0 _ => e a i (by omega))⟩
theorem rf_hi {M M' : jm} (e : ∀ (a : Nat) (i : Int), 598 ≤ a → M' a i = M a i) : rf M = rf M' := funext (fun x => (rf_e (fun i => e 601 i (by decide))).symm)
theorem RDA.gok {C R : jm} (h : RDA C R) (hG : RG1 R) (hI : RI R) : GOK C := fun g g0 g1 u => by
  have q := h.2.2.2.2.2.2.2 g g0 g1
  rw [q.1] at u
  have l := q.2 u
  have z := (hG g g0 u).2
  have a : (-1 : Int) ≤ R 617 g ∧ R 617 g ≤ 400 := by have q := hI 617 g (by decide); rw [xri_row rfl rfl] at q; exact q
  refine ⟨l.2.2.1.2.2, ?_⟩
  by_cases c : R 617 g = -1
  · exact Or.inl (l.2.2.2.2.1.trans c)
  · obtain ⟨l1, l2, l3, l4⟩ := l.2.2.2.2.2 c
    have zz := z c
    refine Or.inr ⟨by rw [l.2.2.2.2.1]; omega, by rw [l2]; omega, ?_, fun k k0 k1 => ?_⟩
    · rcases l.2.1 with e | e
      · right
        rw [l.1.1, l.2.2.2.2.1, l2, e]
        have := l4 e
        unfold hlf
        rw [if_neg (by decide)]
        omega
      · left
        rw [l.1.1, e]
        decide
    · rw [l.2.2.2.2.1] at k1
      rw [l1 k k0 k1]
      have q := hI 618 (400 * g + k) (by decide)
      rw [xri_row rfl rfl] at q
      exact q
theorem RDA.gq6 {C R : jm} (h : RDA C R) : GQ6 R := fun g g0 g1 u => by
  have l := ((h.2.2.2.2.2.2.2 g g0 g1).2 u).2.2.1
  rw [l.1] at l
  rcases l.2.2 with e | e
  · refine Or.inl ⟨e, ?_⟩
    rw [l.2.1, e, rbf_n]
    unfold szf
    (repeat' split) <;> omega
  · exact Or.inr e
theorem rG_ne {a k : Nat} (h : rG a = true) (hk : rG k = false) : a ≠ k := fun e => by
  rw [e, hk] at h
  exact absurd h (by decide)
noncomputable def W_all : List (Nat × Nat) := [(1, 1000), (2, 1000), (3, 1000), (4, 1000), (5, 1000), (6, 1000), (7, 1000), (8, 1000), (9, 1000), (10, 1000), (11, 1000), (12, 1000), (13, 1000), (14, 1000), (15, 1000), (16, 1000), (17, 1000), (18, 1000), (19, 1000), (20, 1000), (21, 1000), (22, 1000), (23, 1000), (24, 1000), (25, 1000), (26, 1000), (27, 1000), (28, 1000), (29, 1000), (30, 1000), (31, 1000), (32, 1000), (33, 1000), (34, 1000), (35, 1000), (36, 1000), (37, 1000), (38, 1000), (39, 1000), (40, 1000), (41, 1000), (42, 1000), (43, 1000), (44, 1000), (45, 1000), (46, 1000), (47, 1000), (48, 1000), (49, 1000), (50, 1000), (51, 1000), (52, 1000), (53, 1000), (54, 1000)]
section JP2
variable {A : Nat → Option (Nat × (Nat → Int32))} {D : Nat} {m : ix_M} {pc : Nat} {ls : ix_L} {st : List Value} {M : jm} {Q : Option Value → jm → Prop}
theorem jr.pop2 {x : Int64} (hi : m.2.2.2.2.2.2 pc = some .pop2) (k : jr A D m (pc + 1) ls st M Q) : jr A D m pc ls (.long x :: st) M Q := jr_sem hi (fun f => by simp [ix_sem, ix_ret, ix_alu, ix_len, Value.category]) k
end JP2
theorem oq_wrong {C R S : jm} (h : RDA C R) (hG : RG1 R) (hI : RI R) (hf : ∀ (a : Nat) (i : Int), a ≠ 603 → S a i = R a i) : RDA C S := ⟨((h.1).r (fun i => hf 599 i (by decide)) (hf 598 1 (by decide))), ((h.2.1).r (fun a i _ _ => hf a i (by omega))), ((h.2.2.1).r (fun i _ _ => (hf 598 i (by decide)))), ((h.2.2.2.1).r (fun i => hf 622 i (by decide)) (hf 598 34 (by decide))), ((h.2.2.2.2.1).r (fun a i _ _ => hf a i (by omega))), ((h.2.2.2.2.2.1).r (fun a i _ _ => hf a i (by omega))), ((h.2.2.2.2.2.2).r hG hI (fun a i _ _ => hf a i (by omega)))⟩
theorem oq_why {C R S : jm} (h : RDA C R) (hG : RG1 R) (hI : RI R) (hf : ∀ (a : Nat) (i : Int), a ≠ 603 → S a i = R a i) : RDA C S := ⟨((h.1).r (fun i => hf 599 i (by decide)) (hf 598 1 (by decide))), ((h.2.1).r (fun a i _ _ => hf a i (by omega))), ((h.2.2.1).r (fun i _ _ => (hf 598 i (by decide)))), ((h.2.2.2.1).r (fun i => hf 622 i (by decide)) (hf 598 34 (by decide))), ((h.2.2.2.2.1).r (fun a i _ _ => hf a i (by omega))), ((h.2.2.2.2.2.1).r (fun a i _ _ => hf a i (by omega))), ((h.2.2.2.2.2.2).r hG hI (fun a i _ _ => hf a i (by omega)))⟩
theorem oq_counter {C R S : jm} (h : RDA C R) (hG : RG1 R) (hI : RI R) (hf : ∀ (a : Nat) (i : Int), a ≠ 603 → S a i = R a i) : RDA C S := ⟨((h.1).r (fun i => hf 599 i (by decide)) (hf 598 1 (by decide))), ((h.2.1).r (fun a i _ _ => hf a i (by omega))), ((h.2.2.1).r (fun i _ _ => (hf 598 i (by decide)))), ((h.2.2.2.1).r (fun i => hf 622 i (by decide)) (hf 598 34 (by decide))), ((h.2.2.2.2.1).r (fun a i _ _ => hf a i (by omega))), ((h.2.2.2.2.2.1).r (fun a i _ _ => hf a i (by omega))), ((h.2.2.2.2.2.2).r hG hI (fun a i _ _ => hf a i (by omega)))⟩
theorem oq_logged {C R S : jm} (h : RDA C R) (hG : RG1 R) (hI : RI R) (hf : ∀ (a : Nat) (i : Int), a ≠ 603 → S a i = R a i) : RDA C S := ⟨((h.1).r (fun i => hf 599 i (by decide)) (hf 598 1 (by decide))), ((h.2.1).r (fun a i _ _ => hf a i (by omega))), ((h.2.2.1).r (fun i _ _ => (hf 598 i (by decide)))), ((h.2.2.2.1).r (fun i => hf 622 i (by decide)) (hf 598 34 (by decide))), ((h.2.2.2.2.1).r (fun a i _ _ => hf a i (by omega))), ((h.2.2.2.2.2.1).r (fun a i _ _ => hf a i (by omega))), ((h.2.2.2.2.2.2).r hG hI (fun a i _ _ => hf a i (by omega)))⟩
theorem oq_learned {C R S : jm} (h : RDA C R) (hG : RG1 R) (hI : RI R) (hf : ∀ (a : Nat) (i : Int), a ≠ 603 → S a i = R a i) : RDA C S := ⟨((h.1).r (fun i => hf 599 i (by decide)) (hf 598 1 (by decide))), ((h.2.1).r (fun a i _ _ => hf a i (by omega))), ((h.2.2.1).r (fun i _ _ => (hf 598 i (by decide)))), ((h.2.2.2.1).r (fun i => hf 622 i (by decide)) (hf 598 34 (by decide))), ((h.2.2.2.2.1).r (fun a i _ _ => hf a i (by omega))), ((h.2.2.2.2.2.1).r (fun a i _ _ => hf a i (by omega))), ((h.2.2.2.2.2.2).r hG hI (fun a i _ _ => hf a i (by omega)))⟩
theorem oq_rowAt {C R S : jm} (h : RDA C R) (hG : RG1 R) (hI : RI R) (hf : ∀ (a : Nat) (i : Int), a ≠ 603 → S a i = R a i) : RDA C S := ⟨((h.1).r (fun i => hf 599 i (by decide)) (hf 598 1 (by decide))), ((h.2.1).r (fun a i _ _ => hf a i (by omega))), ((h.2.2.1).r (fun i _ _ => (hf 598 i (by decide)))), ((h.2.2.2.1).r (fun i => hf 622 i (by decide)) (hf 598 34 (by decide))), ((h.2.2.2.2.1).r (fun a i _ _ => hf a i (by omega))), ((h.2.2.2.2.2.1).r (fun a i _ _ => hf a i (by omega))), ((h.2.2.2.2.2.2).r hG hI (fun a i _ _ => hf a i (by omega)))⟩
theorem oq_has {C R S : jm} (h : RDA C R) (hG : RG1 R) (hI : RI R) (hf : ∀ (a : Nat) (i : Int), a ≠ 603 → S a i = R a i) : RDA C S := ⟨((h.1).r (fun i => hf 599 i (by decide)) (hf 598 1 (by decide))), ((h.2.1).r (fun a i _ _ => hf a i (by omega))), ((h.2.2.1).r (fun i _ _ => (hf 598 i (by decide)))), ((h.2.2.2.1).r (fun i => hf 622 i (by decide)) (hf 598 34 (by decide))), ((h.2.2.2.2.1).r (fun a i _ _ => hf a i (by omega))), ((h.2.2.2.2.2.1).r (fun a i _ _ => hf a i (by omega))), ((h.2.2.2.2.2.2).r hG hI (fun a i _ _ => hf a i (by omega)))⟩
theorem oq_mark {C R S : jm} (h : RDA C R) (hG : RG1 R) (hI : RI R) (hf : ∀ (a : Nat) (i : Int), a ≠ 603 → S a i = R a i) : RDA C S := ⟨((h.1).r (fun i => hf 599 i (by decide)) (hf 598 1 (by decide))), ((h.2.1).r (fun a i _ _ => hf a i (by omega))), ((h.2.2.1).r (fun i _ _ => (hf 598 i (by decide)))), ((h.2.2.2.1).r (fun i => hf 622 i (by decide)) (hf 598 34 (by decide))), ((h.2.2.2.2.1).r (fun a i _ _ => hf a i (by omega))), ((h.2.2.2.2.2.1).r (fun a i _ _ => hf a i (by omega))), ((h.2.2.2.2.2.2).r hG hI (fun a i _ _ => hf a i (by omega)))⟩
theorem oq_told {C R S : jm} (h : RDA C R) (hG : RG1 R) (hI : RI R) (hf : ∀ (a : Nat) (i : Int), a ≠ 603 → S a i = R a i) : RDA C S := ⟨((h.1).r (fun i => hf 599 i (by decide)) (hf 598 1 (by decide))), ((h.2.1).r (fun a i _ _ => hf a i (by omega))), ((h.2.2.1).r (fun i _ _ => (hf 598 i (by decide)))), ((h.2.2.2.1).r (fun i => hf 622 i (by decide)) (hf 598 34 (by decide))), ((h.2.2.2.2.1).r (fun a i _ _ => hf a i (by omega))), ((h.2.2.2.2.2.1).r (fun a i _ _ => hf a i (by omega))), ((h.2.2.2.2.2.2).r hG hI (fun a i _ _ => hf a i (by omega)))⟩
theorem oq_digest {C R S : jm} (h : RDA C R) (hG : RG1 R) (hI : RI R) (hf : ∀ (a : Nat) (i : Int), a ≠ 603 → S a i = R a i) : RDA C S := ⟨((h.1).r (fun i => hf 599 i (by decide)) (hf 598 1 (by decide))), ((h.2.1).r (fun a i _ _ => hf a i (by omega))), ((h.2.2.1).r (fun i _ _ => (hf 598 i (by decide)))), ((h.2.2.2.1).r (fun i => hf 622 i (by decide)) (hf 598 34 (by decide))), ((h.2.2.2.2.1).r (fun a i _ _ => hf a i (by omega))), ((h.2.2.2.2.2.1).r (fun a i _ _ => hf a i (by omega))), ((h.2.2.2.2.2.2).r hG hI (fun a i _ _ => hf a i (by omega)))⟩
theorem oq_bucket {C D R S : jm} (h : RDA C R) (hG : RG1 R) (hI : RI R) (f : FR W_c_PacketWall_bucket C D) (hf : ∀ (a : Nat) (i : Int), a ≠ 623 → a ≠ 624 → a ≠ 625 → a ≠ 626 → S a i = R a i) : RDA D S := ⟨((h.1.f f rfl).r (fun i => hf 599 i (by decide) (by decide) (by decide) (by decide)) (hf 598 1 (by decide) (by decide) (by decide) (by decide))), ((h.2.1.f f rfl).r (fun a i _ _ => hf a i (by omega) (by omega) (by omega) (by omega))), ((h.2.2.1.f f rfl).r (fun i _ _ => (hf 598 i (by decide) (by decide) (by decide) (by decide)))), ((h.2.2.2.1.f f rfl).r (fun i => hf 622 i (by decide) (by decide) (by decide) (by decide)) (hf 598 34 (by decide) (by decide) (by decide) (by decide))), ((h.2.2.2.2.1.f f rfl).r (fun a i _ _ => hf a i (by omega) (by omega) (by omega) (by omega))), ((h.2.2.2.2.2.1.f f rfl).r (fun a i _ _ => hf a i (by omega) (by omega) (by omega) (by omega))), ((h.2.2.2.2.2.2.f f rfl).r hG hI (fun a i _ _ => hf a i (by omega) (by omega) (by omega) (by omega)))⟩
theorem oq_rules {C D R S : jm} (h : RDA C R) (hG : RG1 R) (hI : RI R) (f : FR W_c_PacketWall_rules_o C D) (p : D 0 1 = 0) (q : S 598 1 = 0) (hf : ∀ (a : Nat) (i : Int), a ≠ 598 → a ≠ 651 → a ≠ 652 → a ≠ 653 → a ≠ 654 → a ≠ 655 → a ≠ 656 → a ≠ 657 → a ≠ 658 → a ≠ 659 → a ≠ 660 → a ≠ 661 → a ≠ 662 → a ≠ 663 → a ≠ 664 → a ≠ 665 → a ≠ 666 → a ≠ 667 → a ≠ 668 → a ≠ 669 → S a i = R a i) (hk : ∀ (i : Int), i ≠ 1 → i ≠ 72 → i ≠ 73 → i ≠ 74 → i ≠ 75 → i ≠ 76 → i ≠ 77 → i ≠ 78 → i ≠ 79 → i ≠ 80 → i ≠ 81 → i ≠ 82 → i ≠ 83 → i ≠ 88 → i ≠ 89 → i ≠ 90 → i ≠ 96 → i ≠ 100 → i ≠ 101 → i ≠ 102 → i ≠ 107 → S 598 i = R 598 i) : RDA D S := by
  have e1 : D 1 = C 1 := funext (fun i => f.g (show kd 1 = 43 from rfl) rfl)
  have e2 : S 599 = R 599 := funext (fun i => hf 599 i (by decide) (by decide) (by decide) (by decide) (by decide) (by decide) (by decide) (by decide) (by decide) (by decide) (by decide) (by decide) (by decide) (by decide) (by decide) (by decide) (by decide) (by decide) (by decide) (by decide))
  exact ⟨⟨by rw [e1, e2]; exact h.1.1, by rw [p, q]⟩, ((h.2.1.f f rfl).r (fun a i _ _ => hf a i (by omega) (by omega) (by omega) (by omega) (by omega) (by omega) (by omega) (by omega) (by omega) (by omega) (by omega) (by omega) (by omega) (by omega) (by omega) (by omega) (by omega) (by omega) (by omega) (by omega))), ((h.2.2.1.f f rfl).r (fun i _ _ => (hk i (by omega) (by omega) (by omega) (by omega) (by omega) (by omega) (by omega) (by omega) (by omega) (by omega) (by omega) (by omega) (by omega) (by omega) (by omega) (by omega) (by omega) (by omega) (by omega) (by omega) (by omega)))), ((h.2.2.2.1.f f rfl).r (fun i => hf 622 i (by decide) (by decide) (by decide) (by decide) (by decide) (by decide) (by decide) (by decide) (by decide) (by decide) (by decide) (by decide) (by decide) (by decide) (by decide) (by decide) (by decide) (by decide) (by decide) (by decide)) (hk 34 (by decide) (by decide) (by decide) (by decide) (by decide) (by decide) (by decide) (by decide) (by decide) (by decide) (by decide) (by decide) (by decide) (by decide) (by decide) (by decide) (by decide) (by decide) (by decide) (by decide) (by decide))), ((h.2.2.2.2.1.f f rfl).r (fun a i _ _ => hf a i (by omega) (by omega) (by omega) (by omega) (by omega) (by omega) (by omega) (by omega) (by omega) (by omega) (by omega) (by omega) (by omega) (by omega) (by omega) (by omega) (by omega) (by omega) (by omega) (by omega))), ((h.2.2.2.2.2.1.f f rfl).r (fun a i _ _ => hf a i (by omega) (by omega) (by omega) (by omega) (by omega) (by omega) (by omega) (by omega) (by omega) (by omega) (by omega) (by omega) (by omega) (by omega) (by omega) (by omega) (by omega) (by omega) (by omega) (by omega))), ((h.2.2.2.2.2.2.f f rfl).r hG hI (fun a i _ _ => hf a i (by omega) (by omega) (by omega) (by omega) (by omega) (by omega) (by omega) (by omega) (by omega) (by omega) (by omega) (by omega) (by omega) (by omega) (by omega) (by omega) (by omega) (by omega) (by omega) (by omega)))⟩
theorem oq_verdict {C D R S : jm} (h : RDA C R) (hG : RG1 R) (hI : RI R) (f : FR W_c_PacketWall_verdict_o C D) (p : OL C D) (hf : ∀ (a : Nat) (i : Int), a ≠ 598 → a ≠ 602 → a ≠ 603 → a ≠ 604 → a ≠ 605 → a ≠ 624 → a ≠ 670 → a ≠ 671 → a ≠ 672 → a ≠ 673 → a ≠ 674 → a ≠ 675 → a ≠ 676 → a ≠ 677 → a ≠ 678 → a ≠ 679 → a ≠ 680 → a ≠ 681 → a ≠ 682 → a ≠ 683 → a ≠ 684 → a ≠ 685 → a ≠ 686 → a ≠ 687 → S a i = R a i) (hk : ∀ (i : Int), i ≠ 6 → i ≠ 10 → i ≠ 11 → i ≠ 12 → i ≠ 59 → i ≠ 60 → i ≠ 61 → i ≠ 62 → i ≠ 63 → i ≠ 64 → i ≠ 65 → i ≠ 66 → i ≠ 110 → i ≠ 111 → i ≠ 112 → i ≠ 122 → i ≠ 131 → i ≠ 132 → i ≠ 133 → i ≠ 134 → i ≠ 135 → i ≠ 136 → i ≠ 137 → i ≠ 138 → i ≠ 139 → i ≠ 140 → i ≠ 141 → i ≠ 142 → i ≠ 143 → i ≠ 144 → i ≠ 145 → i ≠ 147 → S 598 i = R 598 i) : RDA D S := ⟨((h.1.f f rfl).r (fun i => hf 599 i (by decide) (by decide) (by decide) (by decide) (by decide) (by decide) (by decide) (by decide) (by decide) (by decide) (by decide) (by decide) (by decide) (by decide) (by decide) (by decide) (by decide) (by decide) (by decide) (by decide) (by decide) (by decide) (by decide) (by decide)) (hk 1 (by decide) (by decide) (by decide) (by decide) (by decide) (by decide) (by decide) (by decide) (by decide) (by decide) (by decide) (by decide) (by decide) (by decide) (by decide) (by decide) (by decide) (by decide) (by decide) (by decide) (by decide) (by decide) (by decide) (by decide) (by decide) (by decide) (by decide) (by decide) (by decide) (by decide) (by decide) (by decide))), ((h.2.1.f f rfl).r (fun a i _ _ => hf a i (by omega) (by omega) (by omega) (by omega) (by omega) (by omega) (by omega) (by omega) (by omega) (by omega) (by omega) (by omega) (by omega) (by omega) (by omega) (by omega) (by omega) (by omega) (by omega) (by omega) (by omega) (by omega) (by omega) (by omega))), ((h.2.2.1.f f rfl).r (fun i _ _ => (hk i (by omega) (by omega) (by omega) (by omega) (by omega) (by omega) (by omega) (by omega) (by omega) (by omega) (by omega) (by omega) (by omega) (by omega) (by omega) (by omega) (by omega) (by omega) (by omega) (by omega) (by omega) (by omega) (by omega) (by omega) (by omega) (by omega) (by omega) (by omega) (by omega) (by omega) (by omega) (by omega)))), ((h.2.2.2.1.f f rfl).r (fun i => hf 622 i (by decide) (by decide) (by decide) (by decide) (by decide) (by decide) (by decide) (by decide) (by decide) (by decide) (by decide) (by decide) (by decide) (by decide) (by decide) (by decide) (by decide) (by decide) (by decide) (by decide) (by decide) (by decide) (by decide) (by decide)) (hk 34 (by decide) (by decide) (by decide) (by decide) (by decide) (by decide) (by decide) (by decide) (by decide) (by decide) (by decide) (by decide) (by decide) (by decide) (by decide) (by decide) (by decide) (by decide) (by decide) (by decide) (by decide) (by decide) (by decide) (by decide) (by decide) (by decide) (by decide) (by decide) (by decide) (by decide) (by decide) (by decide))), ((h.2.2.2.2.1.f f rfl).r (fun a i _ _ => hf a i (by omega) (by omega) (by omega) (by omega) (by omega) (by omega) (by omega) (by omega) (by omega) (by omega) (by omega) (by omega) (by omega) (by omega) (by omega) (by omega) (by omega) (by omega) (by omega) (by omega) (by omega) (by omega) (by omega) (by omega))), ((h.2.2.2.2.2.1.e p (f.g (show kd 15 = 9 from rfl) rfl) (f.g (show kd 15 = 9 from rfl) rfl)).r (fun a i _ _ => hf a i (by omega) (by omega) (by omega) (by omega) (by omega) (by omega) (by omega) (by omega) (by omega) (by omega) (by omega) (by omega) (by omega) (by omega) (by omega) (by omega) (by omega) (by omega) (by omega) (by omega) (by omega) (by omega) (by omega) (by omega))), ((h.2.2.2.2.2.2.f f rfl).r hG hI (fun a i _ _ => hf a i (by omega) (by omega) (by omega) (by omega) (by omega) (by omega) (by omega) (by omega) (by omega) (by omega) (by omega) (by omega) (by omega) (by omega) (by omega) (by omega) (by omega) (by omega) (by omega) (by omega) (by omega) (by omega) (by omega) (by omega)))⟩
end
section
/-! ===== the calls of the law, 0 ===== -/
theorem lop_0 {A : Nat → Option (Nat × (Nat → Int32))} [HA A] {Q : Option Value → jm → Prop} {N : Nat} {xs : Nat → Int32} (hA0 : A 0 = some (N, xs)) (hN : N ≤ 4000) {M : jm} {L L2 S i : Int} (cv : CV M L S) (rv : RV M L2 S) (rd : RDA M M) (hS : 0 ≤ S ∧ S ≤ 900000) (hL : 0 ≤ L ∧ L ≤ 1900000000) (hL2 : 0 ≤ L2 ∧ L2 ≤ 1900000000) (hi : 0 ≤ i ∧ i + 6 ≤ N) (k : ∀ (M' : jm) (S' : Int), S ≤ S' → S' ≤ S + 1000 → CV M' (L + 1000000) S' → RV M' (L2 + 2689623) S' → RDA M' M' → jr A 364 xm_law 1329 [(3, .int (Int32.ofInt (i))), (2, .ref (598)), (1, .ref (0)), (0, .ref (1000000))] [] M' Q) : jr A 364 xm_law 208 [(3, .int (Int32.ofInt (i))), (2, .ref (598)), (1, .ref (0)), (0, .ref (1000000))] [] M Q := by
  have hC_M := cv.1
  have hne := cv.2.2.2.1
  have hz4 := cv.2.2.2.2.1
  have hS8 := cv.2.2.2.2.2
  refine jr.aload_n rfl rfl ?_
  refine jr.aload_n rfl rfl ?_
  refine jr.iload_n rfl rfl ?_
  refine jr.iconst rfl ?_
  refine jr.iadd rfl ?_
  obtain ⟨v1, e1⟩ : ∃ z_, (xs (i + 1).toNat).toInt = z_ := ⟨_, rfl⟩
  have b1 : -2147483648 ≤ v1 ∧ v1 ≤ 2147483647 := by rw [← e1]; exact jb_any _
  refine jr.ials (i := (i + 1)) v1 rfl (by decide) hA0 (by omega) (by omega) (by omega) (by rw [← e1]; exact (Int32.ofInt_toInt _).symm) ?_
  refine jr.aload_n rfl rfl ?_
  refine jr.iload_n rfl rfl ?_
  refine jr.iconst rfl ?_
  refine jr.iadd rfl ?_
  obtain ⟨v2, e2⟩ : ∃ z_, (xs (i + 2).toNat).toInt = z_ := ⟨_, rfl⟩
  have b2 : -2147483648 ≤ v2 ∧ v2 ≤ 2147483647 := by rw [← e2]; exact jb_any _
  refine jr.ials (i := (i + 2)) v2 rfl (by decide) hA0 (by omega) (by omega) (by omega) (by rw [← e2]; exact (Int32.ofInt_toInt _).symm) ?_
  refine jr.aload_n rfl rfl ?_
  refine jr.iload_n rfl rfl ?_
  refine jr.iconst rfl ?_
  refine jr.iadd rfl ?_
  obtain ⟨v3, e3⟩ : ∃ z_, (xs (i + 3).toNat).toInt = z_ := ⟨_, rfl⟩
  have b3 : -2147483648 ≤ v3 ∧ v3 ≤ 2147483647 := by rw [← e3]; exact jb_any _
  refine jr.ials (i := (i + 3)) v3 rfl (by decide) hA0 (by omega) (by omega) (by omega) (by rw [← e3]; exact (Int32.ofInt_toInt _).symm) ?_
  refine jr.aload_n rfl rfl ?_
  refine jr.iload_n rfl rfl ?_
  refine jr.iconst rfl ?_
  refine jr.iadd rfl ?_
  obtain ⟨v4, e4⟩ : ∃ z_, (xs (i + 4).toNat).toInt = z_ := ⟨_, rfl⟩
  have b4 : -2147483648 ≤ v4 ∧ v4 ≤ 2147483647 := by rw [← e4]; exact jb_any _
  refine jr.ials (i := (i + 4)) v4 rfl (by decide) hA0 (by omega) (by omega) (by omega) (by rw [← e4]; exact (Int32.ofInt_toInt _).symm) ?_
  refine jr.aload_n rfl rfl ?_
  refine jr.iload_n rfl rfl ?_
  refine jr.iconst rfl ?_
  refine jr.iadd rfl ?_
  obtain ⟨v5, e5⟩ : ∃ z_, (xs (i + 5).toNat).toInt = z_ := ⟨_, rfl⟩
  have b5 : -2147483648 ≤ v5 ∧ v5 ≤ 2147483647 := by rw [← e5]; exact jb_any _
  refine jr.ials (i := (i + 5)) v5 rfl (by decide) hA0 (by omega) (by omega) (by omega) (by rw [← e5]; exact (Int32.ofInt_toInt _).symm) ?_
  refine jr_v rfl rfl (Or.inl rfl) rfl rfl (by decide) rfl ⟨rfl, Nat.le_of_ble_eq_true rfl, Nat.le_of_ble_eq_true rfl⟩ rfl (jc.deep (c_PacketWall_feed_f cv.1 (FR.rfl _ M) (by omega) (by omega) (by omega) (by omega) (by omega) rfl rfl (fun r6 M6 hC_M6 hf_M6 z6 w6_0 w6_1 => ?_)) (by decide))
  have cv1 : CV M6 L S := ⟨hC_M6, (cv.2.1.fr hf_M6 rfl), (cv.2.2.1.fr cv.1 hf_M6 rfl), (by rw [hf_M6.g (show kd 413 = 44 from rfl) rfl, hf_M6.g (show kd 421 = 22 from rfl) rfl]; exact cv.2.2.2.1), ((hf_M6.g (show kd 421 = 22 from rfl) rfl).trans cv.2.2.2.2.1), ((hf_M6.g (show kd 0 = 35 from rfl) rfl).trans cv.2.2.2.2.2)⟩
  have rv1 : RV M6 L2 S := RV.tr rv (fun a i ha => hf_M6.g (kd_hi ha) rfl)
  have rd1 : RDA M M6 := rd.rr rv.2.2.2.1 rv.1 (fun a i ha => hf_M6.g (kd_hi ha) rfl)
  refine jr.pop rfl rfl ?_
  refine jr.aload_n rfl rfl ?_
  refine jr.aload_n rfl rfl ?_
  refine jr.iload_n rfl rfl ?_
  refine jr.iconst rfl ?_
  refine jr.iadd rfl ?_
  refine jr.ials (i := (i + 1)) v1 rfl (by decide) hA0 (by omega) (by omega) (by omega) (by rw [← e1]; exact (Int32.ofInt_toInt _).symm) ?_
  refine jr.aload_n rfl rfl ?_
  refine jr.iload_n rfl rfl ?_
  refine jr.iconst rfl ?_
  refine jr.iadd rfl ?_
  refine jr.ials (i := (i + 2)) v2 rfl (by decide) hA0 (by omega) (by omega) (by omega) (by rw [← e2]; exact (Int32.ofInt_toInt _).symm) ?_
  refine jr.aload_n rfl rfl ?_
  refine jr.iload_n rfl rfl ?_
  refine jr.iconst rfl ?_
  refine jr.iadd rfl ?_
  refine jr.ials (i := (i + 3)) v3 rfl (by decide) hA0 (by omega) (by omega) (by omega) (by rw [← e3]; exact (Int32.ofInt_toInt _).symm) ?_
  refine jr.aload_n rfl rfl ?_
  refine jr.iload_n rfl rfl ?_
  refine jr.iconst rfl ?_
  refine jr.iadd rfl ?_
  refine jr.ials (i := (i + 4)) v4 rfl (by decide) hA0 (by omega) (by omega) (by omega) (by rw [← e4]; exact (Int32.ofInt_toInt _).symm) ?_
  refine jr.aload_n rfl rfl ?_
  refine jr.iload_n rfl rfl ?_
  refine jr.iconst rfl ?_
  refine jr.iadd rfl ?_
  refine jr.ials (i := (i + 5)) v5 rfl (by decide) hA0 (by omega) (by omega) (by omega) (by rw [← e5]; exact (Int32.ofInt_toInt _).symm) ?_
  refine jr_v rfl rfl (Or.inl rfl) rfl rfl (by decide) rfl ⟨rfl, Nat.le_of_ble_eq_true rfl, Nat.le_of_ble_eq_true rfl⟩ rfl (jc.deep (r_feed_x rv1.1 rv1.2.1 rv1.2.2.1 (by omega) (by omega) (by omega) (by omega) (by omega) (fun r7 M7 hI hH hF z7 w7 hf hk => ?_)) (by decide))
  have cv2 : CV M7 L S := cv1.z (fun a i ha => hf a i (by omega) (by omega))
  have rv2 : RV M7 L2 S := ⟨hI, hH, hF, (RG1.fr rv1.2.2.2.1 (fun a i ha => hf a i (rG_ne ha rfl) (rG_ne ha rfl))), by rw [show M7 650 = M6 650 from funext (fun i => hf 650 i (by decide) (by decide))]; exact rv1.2.2.2.2.1, (MC.fr rv1.2.2.2.2.2.1 (fun i => hf 652 i (by decide) (by decide)) (fun i => hf 653 i (by decide) (by decide)) (fun i => hf 654 i (by decide) (by decide)) (fun i => hf 655 i (by decide) (by decide)) (hk 82 (by decide))), (AS.fr rv1.2.2.2.2.2.2.1 (fun i => hf 685 i (by decide) (by decide)) (hk 112 (by decide))), ((hk 2 (by decide)).trans rv1.2.2.2.2.2.2.2.1), X7.fr rv1.2.2.2.2.2.2.2.2 (fun i => hf 647 i (by decide) (by decide))⟩
  have ho := op_feed rd1 rv1.2.2.2.1 rv1.1 hf_M6 w6_0 w6_1 w7 hf hk
  have rd2 : RDA M7 M7 := ho.1.c (fun a i ha => hf a i (by omega) (by omega))
  have heq : r6 = r7 := ho.2
  refine jr.pop rfl rfl ?_
  refine jr.goto rfl rfl ?_
  exact k _ _ (Int.le_refl _) (by omega) (cv2.le (by omega)) (rv2.le (by omega)) rd2
theorem lop_1 {A : Nat → Option (Nat × (Nat → Int32))} [HA A] {Q : Option Value → jm → Prop} {N : Nat} {xs : Nat → Int32} (hA0 : A 0 = some (N, xs)) (hN : N ≤ 4000) {M : jm} {L L2 S i : Int} (cv : CV M L S) (rv : RV M L2 S) (rd : RDA M M) (hS : 0 ≤ S ∧ S ≤ 900000) (hL : 0 ≤ L ∧ L ≤ 1900000000) (hL2 : 0 ≤ L2 ∧ L2 ≤ 1900000000) (hi : 0 ≤ i ∧ i + 6 ≤ N) (k : ∀ (M' : jm) (S' : Int), S ≤ S' → S' ≤ S + 1000 → CV M' (L + 1000000) S' → RV M' (L2 + 2689623) S' → RDA M' M' → jr A 364 xm_law 1329 [(3, .int (Int32.ofInt (i))), (2, .ref (598)), (1, .ref (0)), (0, .ref (1000000))] [] M' Q) : jr A 364 xm_law 271 [(3, .int (Int32.ofInt (i))), (2, .ref (598)), (1, .ref (0)), (0, .ref (1000000))] [] M Q := by
  have hC_M := cv.1
  have hne := cv.2.2.2.1
  have hz4 := cv.2.2.2.2.1
  have hS8 := cv.2.2.2.2.2
  refine jr.aload_n rfl rfl ?_
  refine jr.aload_n rfl rfl ?_
  refine jr.iload_n rfl rfl ?_
  refine jr.iconst rfl ?_
  refine jr.iadd rfl ?_
  obtain ⟨v1, e1⟩ : ∃ z_, (xs (i + 1).toNat).toInt = z_ := ⟨_, rfl⟩
  have b1 : -2147483648 ≤ v1 ∧ v1 ≤ 2147483647 := by rw [← e1]; exact jb_any _
  refine jr.ials (i := (i + 1)) v1 rfl (by decide) hA0 (by omega) (by omega) (by omega) (by rw [← e1]; exact (Int32.ofInt_toInt _).symm) ?_
  refine jr_v rfl rfl (Or.inl rfl) rfl rfl (by decide) rfl ⟨rfl, Nat.le_of_ble_eq_true rfl, Nat.le_of_ble_eq_true rfl⟩ rfl (jc.deep (c_PacketWall_end_x cv.1 (FR.rfl _ M) (by omega) rfl (fun r2 M2 hC_M2 hf_M2 z2 w2_0 => ?_)) (by decide))
  have cv1 : CV M2 L S := ⟨hC_M2, (cv.2.1.fr hf_M2 rfl), (cv.2.2.1.fr cv.1 hf_M2 rfl), (by rw [hf_M2.g (show kd 413 = 44 from rfl) rfl, hf_M2.g (show kd 421 = 22 from rfl) rfl]; exact cv.2.2.2.1), ((hf_M2.g (show kd 421 = 22 from rfl) rfl).trans cv.2.2.2.2.1), ((hf_M2.g (show kd 0 = 35 from rfl) rfl).trans cv.2.2.2.2.2)⟩
  have rv1 : RV M2 L2 S := RV.tr rv (fun a i ha => hf_M2.g (kd_hi ha) rfl)
  have rd1 : RDA M M2 := rd.rr rv.2.2.2.1 rv.1 (fun a i ha => hf_M2.g (kd_hi ha) rfl)
  refine jr.pop rfl rfl ?_
  refine jr.aload_n rfl rfl ?_
  refine jr.aload_n rfl rfl ?_
  refine jr.iload_n rfl rfl ?_
  refine jr.iconst rfl ?_
  refine jr.iadd rfl ?_
  refine jr.ials (i := (i + 1)) v1 rfl (by decide) hA0 (by omega) (by omega) (by omega) (by rw [← e1]; exact (Int32.ofInt_toInt _).symm) ?_
  refine jr_v rfl rfl (Or.inl rfl) rfl rfl (by decide) rfl ⟨rfl, Nat.le_of_ble_eq_true rfl, Nat.le_of_ble_eq_true rfl⟩ rfl (jc.deep (r_end_x rv1.1 rv1.2.1 rv1.2.2.1 (by omega) (fun r3 M3 hI hH hF z3 w3 hf hk => ?_)) (by decide))
  have cv2 : CV M3 L S := cv1.z (fun a i ha => hf a i (by omega))
  have rv2 : RV M3 L2 S := ⟨hI, hH, hF, (RG1.fr rv1.2.2.2.1 (fun a i ha => hf a i (rG_ne ha rfl))), by rw [show M3 650 = M2 650 from funext (fun i => hf 650 i (by decide))]; exact rv1.2.2.2.2.1, (MC.fr rv1.2.2.2.2.2.1 (fun i => hf 652 i (by decide)) (fun i => hf 653 i (by decide)) (fun i => hf 654 i (by decide)) (fun i => hf 655 i (by decide)) (hk 82 (by decide))), (AS.fr rv1.2.2.2.2.2.2.1 (fun i => hf 685 i (by decide)) (hk 112 (by decide))), ((hk 2 (by decide)).trans rv1.2.2.2.2.2.2.2.1), X7.fr rv1.2.2.2.2.2.2.2.2 (fun i => hf 647 i (by decide))⟩
  have ho := op_end rd1 rv1.2.2.2.1 rv1.1 hf_M2 w2_0 w3 hf hk
  have rd2 : RDA M3 M3 := ho.1.c (fun a i ha => hf a i (by omega))
  have heq : r2 = r3 := ho.2
  refine jr.pop rfl rfl ?_
  refine jr.goto rfl rfl ?_
  exact k _ _ (Int.le_refl _) (by omega) (cv2.le (by omega)) (rv2.le (by omega)) rd2
theorem lop_2 {A : Nat → Option (Nat × (Nat → Int32))} [HA A] {Q : Option Value → jm → Prop} {N : Nat} {xs : Nat → Int32} (hA0 : A 0 = some (N, xs)) (hN : N ≤ 4000) {M : jm} {L L2 S i : Int} (cv : CV M L S) (rv : RV M L2 S) (rd : RDA M M) (hS : 0 ≤ S ∧ S ≤ 900000) (hL : 0 ≤ L ∧ L ≤ 1900000000) (hL2 : 0 ≤ L2 ∧ L2 ≤ 1900000000) (hi : 0 ≤ i ∧ i + 6 ≤ N) (k : ∀ (M' : jm) (S' : Int), S ≤ S' → S' ≤ S + 1000 → CV M' (L + 1000000) S' → RV M' (L2 + 2689623) S' → RDA M' M' → jr A 364 xm_law 1329 [(3, .int (Int32.ofInt (i))), (2, .ref (598)), (1, .ref (0)), (0, .ref (1000000))] [] M' Q) : jr A 364 xm_law 294 [(3, .int (Int32.ofInt (i))), (2, .ref (598)), (1, .ref (0)), (0, .ref (1000000))] [] M Q := by
  have hC_M := cv.1
  have hne := cv.2.2.2.1
  have hz4 := cv.2.2.2.2.1
  have hS8 := cv.2.2.2.2.2
  refine jr.aload_n rfl rfl ?_
  refine jr.aload_n rfl rfl ?_
  refine jr.iload_n rfl rfl ?_
  refine jr.iconst rfl ?_
  refine jr.iadd rfl ?_
  obtain ⟨v1, e1⟩ : ∃ z_, (xs (i + 1).toNat).toInt = z_ := ⟨_, rfl⟩
  have b1 : -2147483648 ≤ v1 ∧ v1 ≤ 2147483647 := by rw [← e1]; exact jb_any _
  refine jr.ials (i := (i + 1)) v1 rfl (by decide) hA0 (by omega) (by omega) (by omega) (by rw [← e1]; exact (Int32.ofInt_toInt _).symm) ?_
  refine jr_v rfl rfl (Or.inl rfl) rfl rfl (by decide) rfl ⟨rfl, Nat.le_of_ble_eq_true rfl, Nat.le_of_ble_eq_true rfl⟩ rfl (jc.deep (c_PacketWall_packet_x cv.1 (FR.rfl _ M) (by omega) rfl rfl (fun r2 M2 hC_M2 hf_M2 z2 w2_0 => ?_)) (by decide))
  have cv1 : CV M2 L S := ⟨hC_M2, (cv.2.1.fr hf_M2 rfl), (cv.2.2.1.fr cv.1 hf_M2 rfl), (by rw [hf_M2.g (show kd 413 = 44 from rfl) rfl, hf_M2.g (show kd 421 = 22 from rfl) rfl]; exact cv.2.2.2.1), ((hf_M2.g (show kd 421 = 22 from rfl) rfl).trans cv.2.2.2.2.1), ((hf_M2.g (show kd 0 = 35 from rfl) rfl).trans cv.2.2.2.2.2)⟩
  have rv1 : RV M2 L2 S := RV.tr rv (fun a i ha => hf_M2.g (kd_hi ha) rfl)
  have rd1 : RDA M M2 := rd.rr rv.2.2.2.1 rv.1 (fun a i ha => hf_M2.g (kd_hi ha) rfl)
  refine jr.pop rfl rfl ?_
  refine jr.aload_n rfl rfl ?_
  refine jr.aload_n rfl rfl ?_
  refine jr.iload_n rfl rfl ?_
  refine jr.iconst rfl ?_
  refine jr.iadd rfl ?_
  refine jr.ials (i := (i + 1)) v1 rfl (by decide) hA0 (by omega) (by omega) (by omega) (by rw [← e1]; exact (Int32.ofInt_toInt _).symm) ?_
  refine jr_v rfl rfl (Or.inl rfl) rfl rfl (by decide) rfl ⟨rfl, Nat.le_of_ble_eq_true rfl, Nat.le_of_ble_eq_true rfl⟩ rfl (jc.deep (r_packet_x rv1.1 rv1.2.1 rv1.2.2.1 (by omega) (fun r3 M3 hI hH hF z3 w3 hf hk => ?_)) (by decide))
  have cv2 : CV M3 L S := cv1.z (fun a i ha => hf a i (by omega) (by omega) (by omega) (by omega))
  have rv2 : RV M3 L2 S := ⟨hI, hH, hF, (RG1.fr rv1.2.2.2.1 (fun a i ha => hf a i (rG_ne ha rfl) (rG_ne ha rfl) (rG_ne ha rfl) (rG_ne ha rfl))), by rw [show M3 650 = M2 650 from funext (fun i => hf 650 i (by decide) (by decide) (by decide) (by decide))]; exact rv1.2.2.2.2.1, (MC.fr rv1.2.2.2.2.2.1 (fun i => hf 652 i (by decide) (by decide) (by decide) (by decide)) (fun i => hf 653 i (by decide) (by decide) (by decide) (by decide)) (fun i => hf 654 i (by decide) (by decide) (by decide) (by decide)) (fun i => hf 655 i (by decide) (by decide) (by decide) (by decide)) (hk 82 (by decide))), (AS.fr rv1.2.2.2.2.2.2.1 (fun i => hf 685 i (by decide) (by decide) (by decide) (by decide)) (hk 112 (by decide))), ((hk 2 (by decide)).trans rv1.2.2.2.2.2.2.2.1), X7.fr rv1.2.2.2.2.2.2.2.2 (fun i => hf 647 i (by decide) (by decide) (by decide) (by decide))⟩
  have ho := op_packet rd1 rv1.2.2.2.1 rv1.1 hf_M2 w2_0 w3 hf hk
  have rd2 : RDA M3 M3 := ho.1.c (fun a i ha => hf a i (by omega) (by omega) (by omega) (by omega))
  have heq : r2 = r3 := ho.2
  refine jr.pop rfl rfl ?_
  refine jr.goto rfl rfl ?_
  exact k _ _ (Int.le_refl _) (by omega) (cv2.le (by omega)) (rv2.le (by omega)) rd2
theorem lop_3 {A : Nat → Option (Nat × (Nat → Int32))} [HA A] {Q : Option Value → jm → Prop} {N : Nat} {xs : Nat → Int32} (hA0 : A 0 = some (N, xs)) (hN : N ≤ 4000) {M : jm} {L L2 S i : Int} (cv : CV M L S) (rv : RV M L2 S) (rd : RDA M M) (hS : 0 ≤ S ∧ S ≤ 900000) (hL : 0 ≤ L ∧ L ≤ 1900000000) (hL2 : 0 ≤ L2 ∧ L2 ≤ 1900000000) (hi : 0 ≤ i ∧ i + 6 ≤ N) (k : ∀ (M' : jm) (S' : Int), S ≤ S' → S' ≤ S + 1000 → CV M' (L + 1000000) S' → RV M' (L2 + 2689623) S' → RDA M' M' → jr A 364 xm_law 1329 [(3, .int (Int32.ofInt (i))), (2, .ref (598)), (1, .ref (0)), (0, .ref (1000000))] [] M' Q) : jr A 364 xm_law 317 [(3, .int (Int32.ofInt (i))), (2, .ref (598)), (1, .ref (0)), (0, .ref (1000000))] [] M Q := by
  have hC_M := cv.1
  have hne := cv.2.2.2.1
  have hz4 := cv.2.2.2.2.1
  have hS8 := cv.2.2.2.2.2
  refine jr.aload_n rfl rfl ?_
  refine jr.aload_n rfl rfl ?_
  refine jr.iload_n rfl rfl ?_
  refine jr.iconst rfl ?_
  refine jr.iadd rfl ?_
  obtain ⟨v1, e1⟩ : ∃ z_, (xs (i + 1).toNat).toInt = z_ := ⟨_, rfl⟩
  have b1 : -2147483648 ≤ v1 ∧ v1 ≤ 2147483647 := by rw [← e1]; exact jb_any _
  refine jr.ials (i := (i + 1)) v1 rfl (by decide) hA0 (by omega) (by omega) (by omega) (by rw [← e1]; exact (Int32.ofInt_toInt _).symm) ?_
  refine jr_v rfl rfl (Or.inl rfl) rfl rfl (by decide) rfl ⟨rfl, Nat.le_of_ble_eq_true rfl, Nat.le_of_ble_eq_true rfl⟩ rfl (jc.deep (c_PacketWall_drop_x cv.1 (FR.rfl _ M) (by omega) rfl (fun r2 M2 hC_M2 hf_M2 z2 w2_0 => ?_)) (by decide))
  have cv1 : CV M2 L S := ⟨hC_M2, (cv.2.1.fr hf_M2 rfl), (cv.2.2.1.fr cv.1 hf_M2 rfl), (by rw [hf_M2.g (show kd 413 = 44 from rfl) rfl, hf_M2.g (show kd 421 = 22 from rfl) rfl]; exact cv.2.2.2.1), ((hf_M2.g (show kd 421 = 22 from rfl) rfl).trans cv.2.2.2.2.1), ((hf_M2.g (show kd 0 = 35 from rfl) rfl).trans cv.2.2.2.2.2)⟩
  have rv1 : RV M2 L2 S := RV.tr rv (fun a i ha => hf_M2.g (kd_hi ha) rfl)
  have rd1 : RDA M M2 := rd.rr rv.2.2.2.1 rv.1 (fun a i ha => hf_M2.g (kd_hi ha) rfl)
  refine jr.pop rfl rfl ?_
  refine jr.aload_n rfl rfl ?_
  refine jr.aload_n rfl rfl ?_
  refine jr.iload_n rfl rfl ?_
  refine jr.iconst rfl ?_
  refine jr.iadd rfl ?_
  refine jr.ials (i := (i + 1)) v1 rfl (by decide) hA0 (by omega) (by omega) (by omega) (by rw [← e1]; exact (Int32.ofInt_toInt _).symm) ?_
  refine jr_v rfl rfl (Or.inl rfl) rfl rfl (by decide) rfl ⟨rfl, Nat.le_of_ble_eq_true rfl, Nat.le_of_ble_eq_true rfl⟩ rfl (jc.deep (r_drop_x rv1.1 rv1.2.1 rv1.2.2.1 (by omega) (fun r3 M3 hI hH hF z3 w3 hf hk => ?_)) (by decide))
  have cv2 : CV M3 L S := cv1.z (fun a i ha => hf a i (by omega) (by omega))
  have rv2 : RV M3 L2 S := ⟨hI, hH, hF, (RG1.fr rv1.2.2.2.1 (fun a i ha => hf a i (rG_ne ha rfl) (rG_ne ha rfl))), by rw [show M3 650 = M2 650 from funext (fun i => hf 650 i (by decide) (by decide))]; exact rv1.2.2.2.2.1, (MC.fr rv1.2.2.2.2.2.1 (fun i => hf 652 i (by decide) (by decide)) (fun i => hf 653 i (by decide) (by decide)) (fun i => hf 654 i (by decide) (by decide)) (fun i => hf 655 i (by decide) (by decide)) (hf 598 82 (by decide) (by decide))), (AS.fr rv1.2.2.2.2.2.2.1 (fun i => hf 685 i (by decide) (by decide)) (hf 598 112 (by decide) (by decide))), ((hf 598 2 (by decide) (by decide)).trans rv1.2.2.2.2.2.2.2.1), X7.fr rv1.2.2.2.2.2.2.2.2 (fun i => hf 647 i (by decide) (by decide))⟩
  have ho := op_drop rd1 rv1.2.2.2.1 rv1.1 hf_M2 w2_0 w3 hf hk
  have rd2 : RDA M3 M3 := ho.1.c (fun a i ha => hf a i (by omega) (by omega))
  have heq : r2 = r3 := ho.2
  refine jr.pop rfl rfl ?_
  refine jr.goto rfl rfl ?_
  exact k _ _ (Int.le_refl _) (by omega) (cv2.le (by omega)) (rv2.le (by omega)) rd2
theorem lop_4 {A : Nat → Option (Nat × (Nat → Int32))} [HA A] {Q : Option Value → jm → Prop} {N : Nat} {xs : Nat → Int32} (hA0 : A 0 = some (N, xs)) (hN : N ≤ 4000) {M : jm} {L L2 S i : Int} (cv : CV M L S) (rv : RV M L2 S) (rd : RDA M M) (hS : 0 ≤ S ∧ S ≤ 900000) (hL : 0 ≤ L ∧ L ≤ 1900000000) (hL2 : 0 ≤ L2 ∧ L2 ≤ 1900000000) (hi : 0 ≤ i ∧ i + 6 ≤ N) (k : ∀ (M' : jm) (S' : Int), S ≤ S' → S' ≤ S + 1000 → CV M' (L + 1000000) S' → RV M' (L2 + 2689623) S' → RDA M' M' → jr A 364 xm_law 1329 [(3, .int (Int32.ofInt (i))), (2, .ref (598)), (1, .ref (0)), (0, .ref (1000000))] [] M' Q) : jr A 364 xm_law 340 [(3, .int (Int32.ofInt (i))), (2, .ref (598)), (1, .ref (0)), (0, .ref (1000000))] [] M Q := by
  have hC_M := cv.1
  have hne := cv.2.2.2.1
  have hz4 := cv.2.2.2.2.1
  have hS8 := cv.2.2.2.2.2
  refine jr.aload_n rfl rfl ?_
  refine jr.aload_n rfl rfl ?_
  refine jr.iload_n rfl rfl ?_
  refine jr.iconst rfl ?_
  refine jr.iadd rfl ?_
  obtain ⟨v1, e1⟩ : ∃ z_, (xs (i + 1).toNat).toInt = z_ := ⟨_, rfl⟩
  have b1 : -2147483648 ≤ v1 ∧ v1 ≤ 2147483647 := by rw [← e1]; exact jb_any _
  refine jr.ials (i := (i + 1)) v1 rfl (by decide) hA0 (by omega) (by omega) (by omega) (by rw [← e1]; exact (Int32.ofInt_toInt _).symm) ?_
  refine jr.aload_n rfl rfl ?_
  refine jr.iload_n rfl rfl ?_
  refine jr.iconst rfl ?_
  refine jr.iadd rfl ?_
  obtain ⟨v2, e2⟩ : ∃ z_, (xs (i + 2).toNat).toInt = z_ := ⟨_, rfl⟩
  have b2 : -2147483648 ≤ v2 ∧ v2 ≤ 2147483647 := by rw [← e2]; exact jb_any _
  refine jr.ials (i := (i + 2)) v2 rfl (by decide) hA0 (by omega) (by omega) (by omega) (by rw [← e2]; exact (Int32.ofInt_toInt _).symm) ?_
  refine jr_v rfl rfl (Or.inl rfl) rfl rfl (by decide) rfl ⟨rfl, Nat.le_of_ble_eq_true rfl, Nat.le_of_ble_eq_true rfl⟩ rfl (jc.deep (c_PacketWall_at_x cv.1 (by omega) (by omega) (fun r3 z3 w3_0 => ?_)) (by decide))
  refine jr.pop rfl rfl ?_
  refine jr.aload_n rfl rfl ?_
  refine jr.aload_n rfl rfl ?_
  refine jr.iload_n rfl rfl ?_
  refine jr.iconst rfl ?_
  refine jr.iadd rfl ?_
  refine jr.ials (i := (i + 1)) v1 rfl (by decide) hA0 (by omega) (by omega) (by omega) (by rw [← e1]; exact (Int32.ofInt_toInt _).symm) ?_
  refine jr.aload_n rfl rfl ?_
  refine jr.iload_n rfl rfl ?_
  refine jr.iconst rfl ?_
  refine jr.iadd rfl ?_
  refine jr.ials (i := (i + 2)) v2 rfl (by decide) hA0 (by omega) (by omega) (by omega) (by rw [← e2]; exact (Int32.ofInt_toInt _).symm) ?_
  refine jr_v rfl rfl (Or.inl rfl) rfl rfl (by decide) rfl ⟨rfl, Nat.le_of_ble_eq_true rfl, Nat.le_of_ble_eq_true rfl⟩ rfl (jc.deep (r_at_x rv.1 rv.2.1 rv.2.2.1 (by omega) (by omega) (fun r4 M4 hI hH hF z4 w4 hM hf hk => ?_)) (by decide))
  have cv2 : CV M4 L S := by rw [hM]; exact cv
  have rv2 : RV M4 L2 S := by rw [hM]; exact rv
  have heq : r3 = r4 := op_at rd rv.1 w3_0 w4
  have rd2 : RDA M4 M4 := by rw [hM]; exact rd
  refine jr.pop rfl rfl ?_
  refine jr.goto rfl rfl ?_
  exact k _ _ (Int.le_refl _) (by omega) (cv2.le (by omega)) (rv2.le (by omega)) rd2
theorem lop_5 {A : Nat → Option (Nat × (Nat → Int32))} [HA A] {Q : Option Value → jm → Prop} {N : Nat} {xs : Nat → Int32} (hA0 : A 0 = some (N, xs)) (hN : N ≤ 4000) {M : jm} {L L2 S i : Int} (cv : CV M L S) (rv : RV M L2 S) (rd : RDA M M) (hS : 0 ≤ S ∧ S ≤ 900000) (hL : 0 ≤ L ∧ L ≤ 1900000000) (hL2 : 0 ≤ L2 ∧ L2 ≤ 1900000000) (hi : 0 ≤ i ∧ i + 6 ≤ N) (k : ∀ (M' : jm) (S' : Int), S ≤ S' → S' ≤ S + 1000 → CV M' (L + 1000000) S' → RV M' (L2 + 2689623) S' → RDA M' M' → jr A 364 xm_law 1329 [(3, .int (Int32.ofInt (i))), (2, .ref (598)), (1, .ref (0)), (0, .ref (1000000))] [] M' Q) : jr A 364 xm_law 373 [(3, .int (Int32.ofInt (i))), (2, .ref (598)), (1, .ref (0)), (0, .ref (1000000))] [] M Q := by
  have hC_M := cv.1
  have hne := cv.2.2.2.1
  have hz4 := cv.2.2.2.2.1
  have hS8 := cv.2.2.2.2.2
  refine jr.aload_n rfl rfl ?_
  refine jr.aload_n rfl rfl ?_
  refine jr.iload_n rfl rfl ?_
  refine jr.iconst rfl ?_
  refine jr.iadd rfl ?_
  obtain ⟨v1, e1⟩ : ∃ z_, (xs (i + 1).toNat).toInt = z_ := ⟨_, rfl⟩
  have b1 : -2147483648 ≤ v1 ∧ v1 ≤ 2147483647 := by rw [← e1]; exact jb_any _
  refine jr.ials (i := (i + 1)) v1 rfl (by decide) hA0 (by omega) (by omega) (by omega) (by rw [← e1]; exact (Int32.ofInt_toInt _).symm) ?_
  refine jr_v rfl rfl (Or.inl rfl) rfl rfl (by decide) rfl ⟨rfl, Nat.le_of_ble_eq_true rfl, Nat.le_of_ble_eq_true rfl⟩ rfl (jc.deep (c_PacketWall_read_x cv.1 (FR.rfl _ M) (by omega) rfl (fun hx => rd.2.1.b rv.1 _ hx.1 (by omega)) (fun r2 M2 hC_M2 hf_M2 z2 w2_0 => ?_)) (by decide))
  have cv1 : CV M2 L S := ⟨hC_M2, (cv.2.1.fr hf_M2 rfl), (cv.2.2.1.fr cv.1 hf_M2 rfl), (by rw [hf_M2.g (show kd 413 = 44 from rfl) rfl, hf_M2.g (show kd 421 = 22 from rfl) rfl]; exact cv.2.2.2.1), ((hf_M2.g (show kd 421 = 22 from rfl) rfl).trans cv.2.2.2.2.1), ((hf_M2.g (show kd 0 = 35 from rfl) rfl).trans cv.2.2.2.2.2)⟩
  have rv1 : RV M2 L2 S := RV.tr rv (fun a i ha => hf_M2.g (kd_hi ha) rfl)
  have rd1 : RDA M M2 := rd.rr rv.2.2.2.1 rv.1 (fun a i ha => hf_M2.g (kd_hi ha) rfl)
  rw [rf_hi (fun a i ha => hf_M2.g (kd_hi ha) rfl)] at w2_0
  refine jr.pop rfl rfl ?_
  refine jr.aload_n rfl rfl ?_
  refine jr.aload_n rfl rfl ?_
  refine jr.iload_n rfl rfl ?_
  refine jr.iconst rfl ?_
  refine jr.iadd rfl ?_
  refine jr.ials (i := (i + 1)) v1 rfl (by decide) hA0 (by omega) (by omega) (by omega) (by rw [← e1]; exact (Int32.ofInt_toInt _).symm) ?_
  refine jr_v rfl rfl (Or.inl rfl) rfl rfl (by decide) rfl ⟨rfl, Nat.le_of_ble_eq_true rfl, Nat.le_of_ble_eq_true rfl⟩ rfl (jc.deep (r_read_x rv1.1 rv1.2.1 rv1.2.2.1 (by omega) (fun r3 M3 hI hH hF z3 w3 hf hk => ?_)) (by decide))
  have cv2 : CV M3 L S := cv1.z (fun a i ha => hf a i (by omega) (by omega) (by omega) (by omega))
  have rv2 : RV M3 L2 S := ⟨hI, hH, hF, (RG1.fr rv1.2.2.2.1 (fun a i ha => hf a i (rG_ne ha rfl) (rG_ne ha rfl) (rG_ne ha rfl) (rG_ne ha rfl))), by rw [show M3 650 = M2 650 from funext (fun i => hf 650 i (by decide) (by decide) (by decide) (by decide))]; exact rv1.2.2.2.2.1, (MC.fr rv1.2.2.2.2.2.1 (fun i => hf 652 i (by decide) (by decide) (by decide) (by decide)) (fun i => hf 653 i (by decide) (by decide) (by decide) (by decide)) (fun i => hf 654 i (by decide) (by decide) (by decide) (by decide)) (fun i => hf 655 i (by decide) (by decide) (by decide) (by decide)) (hk 82 (by decide) (by decide) (by decide) (by decide) (by decide) (by decide) (by decide) (by decide))), (AS.fr rv1.2.2.2.2.2.2.1 (fun i => hf 685 i (by decide) (by decide) (by decide) (by decide)) (hk 112 (by decide) (by decide) (by decide) (by decide) (by decide) (by decide) (by decide) (by decide))), ((hk 2 (by decide) (by decide) (by decide) (by decide) (by decide) (by decide) (by decide) (by decide)).trans rv1.2.2.2.2.2.2.2.1), X7.fr rv1.2.2.2.2.2.2.2.2 (fun i => hf 647 i (by decide) (by decide) (by decide) (by decide))⟩
  have ho := op_read rd1 rv1.2.2.2.1 rv1.1 hf_M2 w2_0 w3 hf hk hI
  have rd2 : RDA M3 M3 := ho.1.c (fun a i ha => hf a i (by omega) (by omega) (by omega) (by omega))
  have heq : r2 = r3 := ho.2
  refine jr.pop rfl rfl ?_
  refine jr.goto rfl rfl ?_
  exact k _ _ (Int.le_refl _) (by omega) (cv2.le (by omega)) (rv2.le (by omega)) rd2
theorem lop_6 {A : Nat → Option (Nat × (Nat → Int32))} [HA A] {Q : Option Value → jm → Prop} {N : Nat} {xs : Nat → Int32} (hA0 : A 0 = some (N, xs)) (hN : N ≤ 4000) {M : jm} {L L2 S i : Int} (cv : CV M L S) (rv : RV M L2 S) (rd : RDA M M) (hS : 0 ≤ S ∧ S ≤ 900000) (hL : 0 ≤ L ∧ L ≤ 1900000000) (hL2 : 0 ≤ L2 ∧ L2 ≤ 1900000000) (hi : 0 ≤ i ∧ i + 6 ≤ N) (k : ∀ (M' : jm) (S' : Int), S ≤ S' → S' ≤ S + 1000 → CV M' (L + 1000000) S' → RV M' (L2 + 2689623) S' → RDA M' M' → jr A 364 xm_law 1329 [(3, .int (Int32.ofInt (i))), (2, .ref (598)), (1, .ref (0)), (0, .ref (1000000))] [] M' Q) : jr A 364 xm_law 396 [(3, .int (Int32.ofInt (i))), (2, .ref (598)), (1, .ref (0)), (0, .ref (1000000))] [] M Q := by
  have hC_M := cv.1
  have hne := cv.2.2.2.1
  have hz4 := cv.2.2.2.2.1
  have hS8 := cv.2.2.2.2.2
  refine jr.aload_n rfl rfl ?_
  refine jr.aload_n rfl rfl ?_
  refine jr.iload_n rfl rfl ?_
  refine jr.iconst rfl ?_
  refine jr.iadd rfl ?_
  obtain ⟨v1, e1⟩ : ∃ z_, (xs (i + 1).toNat).toInt = z_ := ⟨_, rfl⟩
  have b1 : -2147483648 ≤ v1 ∧ v1 ≤ 2147483647 := by rw [← e1]; exact jb_any _
  refine jr.ials (i := (i + 1)) v1 rfl (by decide) hA0 (by omega) (by omega) (by omega) (by rw [← e1]; exact (Int32.ofInt_toInt _).symm) ?_
  refine jr_v rfl rfl (Or.inl rfl) rfl rfl (by decide) rfl ⟨rfl, Nat.le_of_ble_eq_true rfl, Nat.le_of_ble_eq_true rfl⟩ rfl (jc.deep (c_PacketWall_finding_x cv.1 (by omega) (fun r2 z2 w2_0 => ?_)) (by decide))
  refine jr.pop rfl rfl ?_
  refine jr.aload_n rfl rfl ?_
  refine jr.aload_n rfl rfl ?_
  refine jr.iload_n rfl rfl ?_
  refine jr.iconst rfl ?_
  refine jr.iadd rfl ?_
  refine jr.ials (i := (i + 1)) v1 rfl (by decide) hA0 (by omega) (by omega) (by omega) (by rw [← e1]; exact (Int32.ofInt_toInt _).symm) ?_
  refine jr_v rfl rfl (Or.inl rfl) rfl rfl (by decide) rfl ⟨rfl, Nat.le_of_ble_eq_true rfl, Nat.le_of_ble_eq_true rfl⟩ rfl (jc.deep (r_finding_x rv.1 rv.2.1 rv.2.2.1 (by omega) (fun r3 M3 hI hH hF z3 w3 hM hf hk => ?_)) (by decide))
  have cv2 : CV M3 L S := by rw [hM]; exact cv
  have rv2 : RV M3 L2 S := by rw [hM]; exact rv
  have heq : r2 = r3 := op_finding rd w2_0 w3
  have rd2 : RDA M3 M3 := by rw [hM]; exact rd
  refine jr.pop rfl rfl ?_
  refine jr.goto rfl rfl ?_
  exact k _ _ (Int.le_refl _) (by omega) (cv2.le (by omega)) (rv2.le (by omega)) rd2
theorem lop_7 {A : Nat → Option (Nat × (Nat → Int32))} [HA A] {Q : Option Value → jm → Prop} {N : Nat} {xs : Nat → Int32} (hA0 : A 0 = some (N, xs)) (hN : N ≤ 4000) {M : jm} {L L2 S i : Int} (cv : CV M L S) (rv : RV M L2 S) (rd : RDA M M) (hS : 0 ≤ S ∧ S ≤ 900000) (hL : 0 ≤ L ∧ L ≤ 1900000000) (hL2 : 0 ≤ L2 ∧ L2 ≤ 1900000000) (hi : 0 ≤ i ∧ i + 6 ≤ N) (k : ∀ (M' : jm) (S' : Int), S ≤ S' → S' ≤ S + 1000 → CV M' (L + 1000000) S' → RV M' (L2 + 2689623) S' → RDA M' M' → jr A 364 xm_law 1329 [(3, .int (Int32.ofInt (i))), (2, .ref (598)), (1, .ref (0)), (0, .ref (1000000))] [] M' Q) : jr A 364 xm_law 419 [(3, .int (Int32.ofInt (i))), (2, .ref (598)), (1, .ref (0)), (0, .ref (1000000))] [] M Q := by
  have hC_M := cv.1
  have hne := cv.2.2.2.1
  have hz4 := cv.2.2.2.2.1
  have hS8 := cv.2.2.2.2.2
  refine jr.aload_n rfl rfl ?_
  refine jr.aload_n rfl rfl ?_
  refine jr.iload_n rfl rfl ?_
  refine jr.iconst rfl ?_
  refine jr.iadd rfl ?_
  obtain ⟨v1, e1⟩ : ∃ z_, (xs (i + 1).toNat).toInt = z_ := ⟨_, rfl⟩
  have b1 : -2147483648 ≤ v1 ∧ v1 ≤ 2147483647 := by rw [← e1]; exact jb_any _
  refine jr.ials (i := (i + 1)) v1 rfl (by decide) hA0 (by omega) (by omega) (by omega) (by rw [← e1]; exact (Int32.ofInt_toInt _).symm) ?_
  refine jr.aload_n rfl rfl ?_
  refine jr.iload_n rfl rfl ?_
  refine jr.iconst rfl ?_
  refine jr.iadd rfl ?_
  obtain ⟨v2, e2⟩ : ∃ z_, (xs (i + 2).toNat).toInt = z_ := ⟨_, rfl⟩
  have b2 : -2147483648 ≤ v2 ∧ v2 ≤ 2147483647 := by rw [← e2]; exact jb_any _
  refine jr.ials (i := (i + 2)) v2 rfl (by decide) hA0 (by omega) (by omega) (by omega) (by rw [← e2]; exact (Int32.ofInt_toInt _).symm) ?_
  refine jr_v rfl rfl (Or.inl rfl) rfl rfl (by decide) rfl ⟨rfl, Nat.le_of_ble_eq_true rfl, Nat.le_of_ble_eq_true rfl⟩ rfl (jc.deep (c_PacketWall_kind_x cv.1 (FR.rfl _ M) (by omega) (by omega) rfl (fun hx => rd.2.1.b rv.1 _ hx.1 (by omega)) (fun r3 M3 hC_M3 hf_M3 z3 w3_0 => ?_)) (by decide))
  have cv1 : CV M3 L S := ⟨hC_M3, (cv.2.1.fr hf_M3 rfl), (cv.2.2.1.fr cv.1 hf_M3 rfl), (by rw [hf_M3.g (show kd 413 = 44 from rfl) rfl, hf_M3.g (show kd 421 = 22 from rfl) rfl]; exact cv.2.2.2.1), ((hf_M3.g (show kd 421 = 22 from rfl) rfl).trans cv.2.2.2.2.1), ((hf_M3.g (show kd 0 = 35 from rfl) rfl).trans cv.2.2.2.2.2)⟩
  have rv1 : RV M3 L2 S := RV.tr rv (fun a i ha => hf_M3.g (kd_hi ha) rfl)
  have rd1 : RDA M M3 := rd.rr rv.2.2.2.1 rv.1 (fun a i ha => hf_M3.g (kd_hi ha) rfl)
  rw [rf_hi (fun a i ha => hf_M3.g (kd_hi ha) rfl)] at w3_0
  refine jr.pop rfl rfl ?_
  refine jr.aload_n rfl rfl ?_
  refine jr.aload_n rfl rfl ?_
  refine jr.iload_n rfl rfl ?_
  refine jr.iconst rfl ?_
  refine jr.iadd rfl ?_
  refine jr.ials (i := (i + 1)) v1 rfl (by decide) hA0 (by omega) (by omega) (by omega) (by rw [← e1]; exact (Int32.ofInt_toInt _).symm) ?_
  refine jr.aload_n rfl rfl ?_
  refine jr.iload_n rfl rfl ?_
  refine jr.iconst rfl ?_
  refine jr.iadd rfl ?_
  refine jr.ials (i := (i + 2)) v2 rfl (by decide) hA0 (by omega) (by omega) (by omega) (by rw [← e2]; exact (Int32.ofInt_toInt _).symm) ?_
  refine jr_v rfl rfl (Or.inl rfl) rfl rfl (by decide) rfl ⟨rfl, Nat.le_of_ble_eq_true rfl, Nat.le_of_ble_eq_true rfl⟩ rfl (jc.deep (r_kind_x rv1.1 rv1.2.1 rv1.2.2.1 (by omega) (by omega) (fun r4 M4 hI hH hF z4 w4 hf hk => ?_)) (by decide))
  have cv2 : CV M4 L S := cv1.z (fun a i ha => hf a i (by omega) (by omega) (by omega) (by omega))
  have rv2 : RV M4 L2 S := ⟨hI, hH, hF, (RG1.fr rv1.2.2.2.1 (fun a i ha => hf a i (rG_ne ha rfl) (rG_ne ha rfl) (rG_ne ha rfl) (rG_ne ha rfl))), by rw [show M4 650 = M3 650 from funext (fun i => hf 650 i (by decide) (by decide) (by decide) (by decide))]; exact rv1.2.2.2.2.1, (MC.fr rv1.2.2.2.2.2.1 (fun i => hf 652 i (by decide) (by decide) (by decide) (by decide)) (fun i => hf 653 i (by decide) (by decide) (by decide) (by decide)) (fun i => hf 654 i (by decide) (by decide) (by decide) (by decide)) (fun i => hf 655 i (by decide) (by decide) (by decide) (by decide)) (hk 82 (by decide) (by decide) (by decide) (by decide))), (AS.fr rv1.2.2.2.2.2.2.1 (fun i => hf 685 i (by decide) (by decide) (by decide) (by decide)) (hk 112 (by decide) (by decide) (by decide) (by decide))), ((hk 2 (by decide) (by decide) (by decide) (by decide)).trans rv1.2.2.2.2.2.2.2.1), X7.fr rv1.2.2.2.2.2.2.2.2 (fun i => hf 647 i (by decide) (by decide) (by decide) (by decide))⟩
  have ho := op_kind (z := 0) rd1 rv1.2.2.2.1 rv1.1 hf_M3 w3_0 w4 hf hk
  have rd2 : RDA M4 M4 := ho.1.c (fun a i ha => hf a i (by omega) (by omega) (by omega) (by omega))
  have heq : r3 = r4 := ho.2
  refine jr.pop rfl rfl ?_
  refine jr.goto rfl rfl ?_
  exact k _ _ (Int.le_refl _) (by omega) (cv2.le (by omega)) (rv2.le (by omega)) rd2
theorem lop_8 {A : Nat → Option (Nat × (Nat → Int32))} [HA A] {Q : Option Value → jm → Prop} {N : Nat} {xs : Nat → Int32} (hA0 : A 0 = some (N, xs)) (hN : N ≤ 4000) {M : jm} {L L2 S i : Int} (cv : CV M L S) (rv : RV M L2 S) (rd : RDA M M) (hS : 0 ≤ S ∧ S ≤ 900000) (hL : 0 ≤ L ∧ L ≤ 1900000000) (hL2 : 0 ≤ L2 ∧ L2 ≤ 1900000000) (hi : 0 ≤ i ∧ i + 6 ≤ N) (k : ∀ (M' : jm) (S' : Int), S ≤ S' → S' ≤ S + 1000 → CV M' (L + 1000000) S' → RV M' (L2 + 2689623) S' → RDA M' M' → jr A 364 xm_law 1329 [(3, .int (Int32.ofInt (i))), (2, .ref (598)), (1, .ref (0)), (0, .ref (1000000))] [] M' Q) : jr A 364 xm_law 452 [(3, .int (Int32.ofInt (i))), (2, .ref (598)), (1, .ref (0)), (0, .ref (1000000))] [] M Q := by
  have hC_M := cv.1
  have hne := cv.2.2.2.1
  have hz4 := cv.2.2.2.2.1
  have hS8 := cv.2.2.2.2.2
  refine jr.aload_n rfl rfl ?_
  refine jr.aload_n rfl rfl ?_
  refine jr.iload_n rfl rfl ?_
  refine jr.iconst rfl ?_
  refine jr.iadd rfl ?_
  obtain ⟨v1, e1⟩ : ∃ z_, (xs (i + 1).toNat).toInt = z_ := ⟨_, rfl⟩
  have b1 : -2147483648 ≤ v1 ∧ v1 ≤ 2147483647 := by rw [← e1]; exact jb_any _
  refine jr.ials (i := (i + 1)) v1 rfl (by decide) hA0 (by omega) (by omega) (by omega) (by rw [← e1]; exact (Int32.ofInt_toInt _).symm) ?_
  refine jr.aload_n rfl rfl ?_
  refine jr.iload_n rfl rfl ?_
  refine jr.iconst rfl ?_
  refine jr.iadd rfl ?_
  obtain ⟨v2, e2⟩ : ∃ z_, (xs (i + 2).toNat).toInt = z_ := ⟨_, rfl⟩
  have b2 : -2147483648 ≤ v2 ∧ v2 ≤ 2147483647 := by rw [← e2]; exact jb_any _
  refine jr.ials (i := (i + 2)) v2 rfl (by decide) hA0 (by omega) (by omega) (by omega) (by rw [← e2]; exact (Int32.ofInt_toInt _).symm) ?_
  refine jr.aload_n rfl rfl ?_
  refine jr.iload_n rfl rfl ?_
  refine jr.iconst rfl ?_
  refine jr.iadd rfl ?_
  obtain ⟨v3, e3⟩ : ∃ z_, (xs (i + 3).toNat).toInt = z_ := ⟨_, rfl⟩
  have b3 : -2147483648 ≤ v3 ∧ v3 ≤ 2147483647 := by rw [← e3]; exact jb_any _
  refine jr.ials (i := (i + 3)) v3 rfl (by decide) hA0 (by omega) (by omega) (by omega) (by rw [← e3]; exact (Int32.ofInt_toInt _).symm) ?_
  refine jr_v rfl rfl (Or.inl rfl) rfl rfl (by decide) rfl ⟨rfl, Nat.le_of_ble_eq_true rfl, Nat.le_of_ble_eq_true rfl⟩ rfl (jc.deep (c_PacketWall_field_x cv.1 (FR.rfl _ M) (by omega) (by omega) (by omega) rfl (fun hx => rd.2.1.b rv.1 _ hx.1 (by omega)) (fun r4 M4 hC_M4 hf_M4 z4 w4_0 => ?_)) (by decide))
  have cv1 : CV M4 L S := ⟨hC_M4, (cv.2.1.fr hf_M4 rfl), (cv.2.2.1.fr cv.1 hf_M4 rfl), (by rw [hf_M4.g (show kd 413 = 44 from rfl) rfl, hf_M4.g (show kd 421 = 22 from rfl) rfl]; exact cv.2.2.2.1), ((hf_M4.g (show kd 421 = 22 from rfl) rfl).trans cv.2.2.2.2.1), ((hf_M4.g (show kd 0 = 35 from rfl) rfl).trans cv.2.2.2.2.2)⟩
  have rv1 : RV M4 L2 S := RV.tr rv (fun a i ha => hf_M4.g (kd_hi ha) rfl)
  have rd1 : RDA M M4 := rd.rr rv.2.2.2.1 rv.1 (fun a i ha => hf_M4.g (kd_hi ha) rfl)
  rw [rf_hi (fun a i ha => hf_M4.g (kd_hi ha) rfl)] at w4_0
  refine jr.aload_n rfl rfl ?_
  refine jr.aload_n rfl rfl ?_
  refine jr.iload_n rfl rfl ?_
  refine jr.iconst rfl ?_
  refine jr.iadd rfl ?_
  refine jr.ials (i := (i + 1)) v1 rfl (by decide) hA0 (by omega) (by omega) (by omega) (by rw [← e1]; exact (Int32.ofInt_toInt _).symm) ?_
  refine jr.aload_n rfl rfl ?_
  refine jr.iload_n rfl rfl ?_
  refine jr.iconst rfl ?_
  refine jr.iadd rfl ?_
  refine jr.ials (i := (i + 2)) v2 rfl (by decide) hA0 (by omega) (by omega) (by omega) (by rw [← e2]; exact (Int32.ofInt_toInt _).symm) ?_
  refine jr.aload_n rfl rfl ?_
  refine jr.iload_n rfl rfl ?_
  refine jr.iconst rfl ?_
  refine jr.iadd rfl ?_
  refine jr.ials (i := (i + 3)) v3 rfl (by decide) hA0 (by omega) (by omega) (by omega) (by rw [← e3]; exact (Int32.ofInt_toInt _).symm) ?_
  refine jr_v rfl rfl (Or.inl rfl) rfl rfl (by decide) rfl ⟨rfl, Nat.le_of_ble_eq_true rfl, Nat.le_of_ble_eq_true rfl⟩ rfl (jc.deep (r_field_x rv1.1 rv1.2.1 rv1.2.2.1 (by omega) (by omega) (by omega) (fun r5 M5 hI hH hF z5 w5 hf hk => ?_)) (by decide))
  have cv2 : CV M5 L S := cv1.z (fun a i ha => hf a i (by omega) (by omega) (by omega) (by omega))
  have rv2 : RV M5 L2 S := ⟨hI, hH, hF, (RG1.fr rv1.2.2.2.1 (fun a i ha => hf a i (rG_ne ha rfl) (rG_ne ha rfl) (rG_ne ha rfl) (rG_ne ha rfl))), by rw [show M5 650 = M4 650 from funext (fun i => hf 650 i (by decide) (by decide) (by decide) (by decide))]; exact rv1.2.2.2.2.1, (MC.fr rv1.2.2.2.2.2.1 (fun i => hf 652 i (by decide) (by decide) (by decide) (by decide)) (fun i => hf 653 i (by decide) (by decide) (by decide) (by decide)) (fun i => hf 654 i (by decide) (by decide) (by decide) (by decide)) (fun i => hf 655 i (by decide) (by decide) (by decide) (by decide)) (hk 82 (by decide) (by decide) (by decide) (by decide))), (AS.fr rv1.2.2.2.2.2.2.1 (fun i => hf 685 i (by decide) (by decide) (by decide) (by decide)) (hk 112 (by decide) (by decide) (by decide) (by decide))), ((hk 2 (by decide) (by decide) (by decide) (by decide)).trans rv1.2.2.2.2.2.2.2.1), X7.fr rv1.2.2.2.2.2.2.2.2 (fun i => hf 647 i (by decide) (by decide) (by decide) (by decide))⟩
  have ho := op_field rd1 rv1.2.2.2.1 rv1.1 hf_M4 w4_0 w5 hf hk
  have rd2 : RDA M5 M5 := ho.1.c (fun a i ha => hf a i (by omega) (by omega) (by omega) (by omega))
  have heq : r4 = r5 := ho.2
  refine jr.lcmp_eq rfl rfl rfl (by omega) (by omega) (fun h490 => ?_) (fun h => absurd heq h)
  exact k _ _ (Int.le_refl _) (by omega) (cv2.le (by omega)) (rv2.le (by omega)) rd2
theorem lop_9 {A : Nat → Option (Nat × (Nat → Int32))} [HA A] {Q : Option Value → jm → Prop} {N : Nat} {xs : Nat → Int32} (hA0 : A 0 = some (N, xs)) (hN : N ≤ 4000) {M : jm} {L L2 S i : Int} (cv : CV M L S) (rv : RV M L2 S) (rd : RDA M M) (hS : 0 ≤ S ∧ S ≤ 900000) (hL : 0 ≤ L ∧ L ≤ 1900000000) (hL2 : 0 ≤ L2 ∧ L2 ≤ 1900000000) (hi : 0 ≤ i ∧ i + 6 ≤ N) (k : ∀ (M' : jm) (S' : Int), S ≤ S' → S' ≤ S + 1000 → CV M' (L + 1000000) S' → RV M' (L2 + 2689623) S' → RDA M' M' → jr A 364 xm_law 1329 [(3, .int (Int32.ofInt (i))), (2, .ref (598)), (1, .ref (0)), (0, .ref (1000000))] [] M' Q) : jr A 364 xm_law 496 [(3, .int (Int32.ofInt (i))), (2, .ref (598)), (1, .ref (0)), (0, .ref (1000000))] [] M Q := by
  have hC_M := cv.1
  have hne := cv.2.2.2.1
  have hz4 := cv.2.2.2.2.1
  have hS8 := cv.2.2.2.2.2
  refine jr.aload_n rfl rfl ?_
  refine jr.aload_n rfl rfl ?_
  refine jr.iload_n rfl rfl ?_
  refine jr.iconst rfl ?_
  refine jr.iadd rfl ?_
  obtain ⟨v1, e1⟩ : ∃ z_, (xs (i + 1).toNat).toInt = z_ := ⟨_, rfl⟩
  have b1 : -2147483648 ≤ v1 ∧ v1 ≤ 2147483647 := by rw [← e1]; exact jb_any _
  refine jr.ials (i := (i + 1)) v1 rfl (by decide) hA0 (by omega) (by omega) (by omega) (by rw [← e1]; exact (Int32.ofInt_toInt _).symm) ?_
  refine jr.aload_n rfl rfl ?_
  refine jr.iload_n rfl rfl ?_
  refine jr.iconst rfl ?_
  refine jr.iadd rfl ?_
  obtain ⟨v2, e2⟩ : ∃ z_, (xs (i + 2).toNat).toInt = z_ := ⟨_, rfl⟩
  have b2 : -2147483648 ≤ v2 ∧ v2 ≤ 2147483647 := by rw [← e2]; exact jb_any _
  refine jr.ials (i := (i + 2)) v2 rfl (by decide) hA0 (by omega) (by omega) (by omega) (by rw [← e2]; exact (Int32.ofInt_toInt _).symm) ?_
  refine jr_v rfl rfl (Or.inl rfl) rfl rfl (by decide) rfl ⟨rfl, Nat.le_of_ble_eq_true rfl, Nat.le_of_ble_eq_true rfl⟩ rfl (jc.deep (c_PacketWall_place_x cv.1 (FR.rfl _ M) (by omega) (by omega) rfl (fun hx => rd.2.1.b rv.1 _ hx.1 (by omega)) (fun r3 M3 hC_M3 hf_M3 z3 w3_0 => ?_)) (by decide))
  have cv1 : CV M3 L S := ⟨hC_M3, (cv.2.1.fr hf_M3 rfl), (cv.2.2.1.fr cv.1 hf_M3 rfl), (by rw [hf_M3.g (show kd 413 = 44 from rfl) rfl, hf_M3.g (show kd 421 = 22 from rfl) rfl]; exact cv.2.2.2.1), ((hf_M3.g (show kd 421 = 22 from rfl) rfl).trans cv.2.2.2.2.1), ((hf_M3.g (show kd 0 = 35 from rfl) rfl).trans cv.2.2.2.2.2)⟩
  have rv1 : RV M3 L2 S := RV.tr rv (fun a i ha => hf_M3.g (kd_hi ha) rfl)
  have rd1 : RDA M M3 := rd.rr rv.2.2.2.1 rv.1 (fun a i ha => hf_M3.g (kd_hi ha) rfl)
  rw [rf_hi (fun a i ha => hf_M3.g (kd_hi ha) rfl)] at w3_0
  refine jr.pop rfl rfl ?_
  refine jr.aload_n rfl rfl ?_
  refine jr.aload_n rfl rfl ?_
  refine jr.iload_n rfl rfl ?_
  refine jr.iconst rfl ?_
  refine jr.iadd rfl ?_
  refine jr.ials (i := (i + 1)) v1 rfl (by decide) hA0 (by omega) (by omega) (by omega) (by rw [← e1]; exact (Int32.ofInt_toInt _).symm) ?_
  refine jr.aload_n rfl rfl ?_
  refine jr.iload_n rfl rfl ?_
  refine jr.iconst rfl ?_
  refine jr.iadd rfl ?_
  refine jr.ials (i := (i + 2)) v2 rfl (by decide) hA0 (by omega) (by omega) (by omega) (by rw [← e2]; exact (Int32.ofInt_toInt _).symm) ?_
  refine jr_v rfl rfl (Or.inl rfl) rfl rfl (by decide) rfl ⟨rfl, Nat.le_of_ble_eq_true rfl, Nat.le_of_ble_eq_true rfl⟩ rfl (jc.deep (r_place_x rv1.1 rv1.2.1 rv1.2.2.1 (by omega) (by omega) (fun r4 M4 hI hH hF z4 w4 hf hk => ?_)) (by decide))
  have cv2 : CV M4 L S := cv1.z (fun a i ha => hf a i (by omega) (by omega) (by omega) (by omega))
  have rv2 : RV M4 L2 S := ⟨hI, hH, hF, (RG1.fr rv1.2.2.2.1 (fun a i ha => hf a i (rG_ne ha rfl) (rG_ne ha rfl) (rG_ne ha rfl) (rG_ne ha rfl))), by rw [show M4 650 = M3 650 from funext (fun i => hf 650 i (by decide) (by decide) (by decide) (by decide))]; exact rv1.2.2.2.2.1, (MC.fr rv1.2.2.2.2.2.1 (fun i => hf 652 i (by decide) (by decide) (by decide) (by decide)) (fun i => hf 653 i (by decide) (by decide) (by decide) (by decide)) (fun i => hf 654 i (by decide) (by decide) (by decide) (by decide)) (fun i => hf 655 i (by decide) (by decide) (by decide) (by decide)) (hk 82 (by decide) (by decide) (by decide) (by decide))), (AS.fr rv1.2.2.2.2.2.2.1 (fun i => hf 685 i (by decide) (by decide) (by decide) (by decide)) (hk 112 (by decide) (by decide) (by decide) (by decide))), ((hk 2 (by decide) (by decide) (by decide) (by decide)).trans rv1.2.2.2.2.2.2.2.1), X7.fr rv1.2.2.2.2.2.2.2.2 (fun i => hf 647 i (by decide) (by decide) (by decide) (by decide))⟩
  have ho := op_place (z := 0) rd1 rv1.2.2.2.1 rv1.1 hf_M3 w3_0 w4 hf hk
  have rd2 : RDA M4 M4 := ho.1.c (fun a i ha => hf a i (by omega) (by omega) (by omega) (by omega))
  have heq : r3 = r4 := ho.2
  refine jr.pop rfl rfl ?_
  refine jr.goto rfl rfl ?_
  exact k _ _ (Int.le_refl _) (by omega) (cv2.le (by omega)) (rv2.le (by omega)) rd2
end
