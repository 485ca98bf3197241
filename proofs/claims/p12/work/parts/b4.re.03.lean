section
theorem op_track {C D R S : jm} {r r2 : Int} (h : RDA C R) (hG : RG1 R) (hI : RI R) {x : Int} (hT : C 0 8 = R 598 2) (h7 : ∀ i : Int, 0 ≤ i → i < 100 → R 647 i = xcv_5 i) (f : FR W_c_PacketWall_track_x C D) (p : ((x < 0 ∨ 23 < x ∨ C (xe 2 x) 1 = -1) ∧ r = -2 ∧ D = C) ∨ (((0 ≤ x ∧ x ≤ 23) ∧ C (xe 2 x) 1 ≠ -1) ∧ ∃ (C_ : Int) (H : jm), HE (rf R x) (C (xe 2 x) 1) C_ ∧ (H 3 4 = 0 ↔ hX (rf R x) (C (xe 2 x) 1) C_ = -1) ∧ FR W_c_Headers_readAll_x C H ∧ PTQ H D (rf R x) (C (xe 2 x) 1) C_ (H 3 4) (C 15 0).toNat (C 0 8) r)) (q : TR6 R S x r2) (hf : ∀ (a : Nat) (i : Int), a ≠ 598 → a ≠ 603 → a ≠ 604 → a ≠ 605 → a ≠ 627 → a ≠ 628 → a ≠ 629 → a ≠ 630 → a ≠ 631 → a ≠ 632 → a ≠ 633 → a ≠ 634 → a ≠ 635 → a ≠ 636 → a ≠ 637 → a ≠ 638 → a ≠ 639 → a ≠ 640 → S a i = R a i) (hk : ∀ (i : Int), i ≠ 6 → i ≠ 10 → i ≠ 11 → i ≠ 12 → i ≠ 59 → i ≠ 60 → i ≠ 61 → i ≠ 62 → i ≠ 63 → i ≠ 64 → i ≠ 65 → i ≠ 66 → S 598 i = R 598 i) : RDA D S ∧ r = r2 := by
  have rest : RDw D S → r = r2 → RDA D S ∧ r = r2 := fun hw e => ⟨⟨((h.1.f f rfl).r (fun i => hf 599 i (by decide) (by decide) (by decide) (by decide) (by decide) (by decide) (by decide) (by decide) (by decide) (by decide) (by decide) (by decide) (by decide) (by decide) (by decide) (by decide) (by decide) (by decide)) (hk 1 (by decide) (by decide) (by decide) (by decide) (by decide) (by decide) (by decide) (by decide) (by decide) (by decide) (by decide) (by decide))), ((h.2.1.f f rfl).r (fun a i _ _ => hf a i (by omega) (by omega) (by omega) (by omega) (by omega) (by omega) (by omega) (by omega) (by omega) (by omega) (by omega) (by omega) (by omega) (by omega) (by omega) (by omega) (by omega) (by omega))), ((h.2.2.1.f f rfl).r (fun i _ _ => (hk i (by omega) (by omega) (by omega) (by omega) (by omega) (by omega) (by omega) (by omega) (by omega) (by omega) (by omega) (by omega)))), ((h.2.2.2.1.f f rfl).r (fun i => hf 622 i (by decide) (by decide) (by decide) (by decide) (by decide) (by decide) (by decide) (by decide) (by decide) (by decide) (by decide) (by decide) (by decide) (by decide) (by decide) (by decide) (by decide) (by decide)) (hk 34 (by decide) (by decide) (by decide) (by decide) (by decide) (by decide) (by decide) (by decide) (by decide) (by decide) (by decide) (by decide))), ((h.2.2.2.2.1.f f rfl).r (fun a i _ _ => hf a i (by omega) (by omega) (by omega) (by omega) (by omega) (by omega) (by omega) (by omega) (by omega) (by omega) (by omega) (by omega) (by omega) (by omega) (by omega) (by omega) (by omega) (by omega))), hw, ((h.2.2.2.2.2.2.f f rfl).r hG hI (fun a i _ _ => hf a i (by omega) (by omega) (by omega) (by omega) (by omega) (by omega) (by omega) (by omega) (by omega) (by omega) (by omega) (by omega) (by omega) (by omega) (by omega) (by omega) (by omega) (by omega)))⟩, e⟩
  by_cases hx : 0 ≤ x ∧ x ≤ 23
  · have hN := (h.2.1 x (by omega) (by omega)).1
    rw [hN] at p
    rcases p with ⟨p0, p1, p2⟩ | ⟨p0, c1, H, p1, p2, p3, p5⟩ <;> rcases q with ⟨q0, q1, q2⟩ | ⟨q0, c2, q1, q2⟩
    · rw [p2, q2]
      exact ⟨h, by omega⟩
    · exact absurd p0 (by omega)
    · exact absurd q0 (by omega)
    · have ec := HE.u p1 q1
      subst ec
      rcases p5 with ⟨a1, a2⟩ | ⟨E, a1, a2⟩
      · have ng := (a1.he p2).2.1 rfl
        rcases q2 with ⟨b0, b1, b2⟩ | ⟨b0, -⟩ | ⟨b0, -⟩
        · exact rest (RDw.ot h.2.2.2.2.2.1 p3 a1.ot b2).1 (by omega)
        · exact absurd b0 ng
        · exact absurd b0 ng
      · have hg := (a1.he p2).1.1 rfl
        have ot := a1.ot
        have nn := a1.in1
        rcases q2 with ⟨b0, -⟩ | ⟨-, b0, E6, b1, b2, b3, b4⟩ | ⟨-, b0, E6, b1, b2, b3, b4⟩
        · exact absurd hg b0
        · rcases nn.2 with ⟨m0, m1, m2⟩ | ⟨m0, m1, m2⟩
          · have w6 := RDw.ot h.2.2.2.2.2.1 p3 ot b1.1
            have v0 : (E 15 0).toNat = (C 15 0).toNat := by rw [w6.2.1]
            have fe := fe_eq w6.1 (eqe m2 b2) 24 0 (by decide) (by decide)
            rw [v0] at fe
            rw [fe] at a2
            rcases a2 with ⟨a3, a4, a5⟩ | ⟨a3, -⟩ | ⟨a3, -⟩
            · refine rest ?_ (a4.trans b4.symm)
              rw [a5]
              exact (RDw.ot h.2.2.2.2.2.1 p3 ot b3).1
            · omega
            · omega
          · exact absurd b0 m0
        · rcases nn.2 with ⟨m0, -⟩ | ⟨m0, m1, m2⟩
          · exact absurd m0 b0
          · have w6 := RDw.ot h.2.2.2.2.2.1 p3 ot b1.1
            have v0 : (E 15 0).toNat = (C 15 0).toNat := by rw [w6.2.1]
            have eq := eqe m2 b2
            have fe := fe_eq w6.1 eq 24 0 (by decide) (by decide)
            have fr := fr_eq w6.1 24 0 (by decide) (by decide)
            have wd := w6.1
            rw [v0] at fe fr
            rw [fe, nn.1.2] at a2
            have hk := hg.2.2.2.2
            have hi := kA_in (f := rf R x) (N := R 600 x) (C := c1) (x := inf (rf R x) (R 600 x) c1 (ntf (rf R x) (R 600 x) c1)) (by omega)
            obtain ⟨t1, t2, t3, t4, t5, t6⟩ := b1
            have tkc : TKC E6 (rf R x) (R 600 x) c1 x (inf (rf R x) (R 600 x) c1 (ntf (rf R x) (R 600 x) c1)) := ⟨t3, hi, b2.2, t4, t5⟩
            have hn6 : E6 598 60 = nxk (kA (rf R x) (R 600 x) c1 (inf (rf R x) (R 600 x) c1 (ntf (rf R x) (R 600 x) c1))) := b2.1.1.2
            have h76 : ∀ i : Int, 0 ≤ i → i < 100 → E6 647 i = xcv_5 i := fun i i0 i1 => (t6 i).trans (h7 i i0 i1)
            have hZ : E6 598 2 = C 0 8 := t2.trans hT.symm
            have may := HIY.i (may_iff tkc hk hn6)
            unfold TRN at b4
            rw [hZ] at b4
            have i01 : ∀ (b : Nat) (j : Int), (b = 632 ∨ b = 634) → 0 ≤ E6 b j ∧ E6 b j ≤ 1 := fun b j hb => by
              rw [t1 b j (by omega) (by omega)]
              rcases hb with rfl | rfl
              · have q := hI 632 j (by decide)
                rw [xri_row rfl rfl] at q
                exact q
              · have q := hI 634 j (by decide)
                rw [xri_row rfl rfl] at q
                exact q
            have one : ∀ g : Int, 0 ≤ g → g < 24 → fr7 E D (xe (C 15 0).toNat g) → O7 E6 S g → FR1 D S (xe (C 15 0).toNat g) g → RDw D S := fun g g0 g1 hd ho hn => by
              have a := xfl (V := C 15 0) h.2.2.2.2.2.1.1.1 (i := g) ⟨g0, g1⟩
              refine RDw.one wd (x := g) ⟨g0, g1⟩ (hd 15 0 (by omega)) (hd 15 1 (by omega)) (fun b k _ _ hb => hd b k ?_) ho ?_
              · rw [v0] at hb
                exact hb
              · rw [v0]
                exact hn
            rcases a2 with ⟨a3, -⟩ | ⟨a3, a4, a5⟩ | ⟨a3, a4, q', a5, a6⟩
            · omega
            · -- no flow has these ends
              rcases b4 with ⟨-, b5⟩ | ⟨b5, -⟩
              · unfold BEQ at a5
                rw [fr, eq.1.2, may.e] at a5
                rcases a5 with ⟨a5, a6, a7⟩ | ⟨a5, a6, a7, a8⟩ | ⟨a5, a6, a7, B, q', a8, a9⟩
                · rcases b5 with ⟨b5, b6, b7⟩ | ⟨b5, -⟩ | ⟨b5, -⟩
                  · refine rest ?_ (by omega)
                    rw [a7, b7]
                    exact wd
                  · exact absurd b5 a5
                  · exact absurd b5 a5
                · rcases b5 with ⟨b5, -⟩ | ⟨b5, b6, b7, b8⟩ | ⟨b5, b6, -⟩
                  · exact absurd a5 b5
                  · refine rest ?_ (by omega)
                    rw [a8, b8]
                    exact wd
                  · exact absurd a6 b6
                · rcases b5 with ⟨b5, -⟩ | ⟨b5, b6, -⟩ | ⟨b5, b6, b7, B6, b8, b9, b10⟩
                  · exact absurd a5 b5
                  · exact absurd b6 a6
                  · have er : r = r2 := a7.trans b7.symm
                    subst er
                    have rr := (frF_r E (C 15 0).toNat 24 0 (by decide))
                    rw [fr, ← a7] at rr
                    have rg := rr.resolve_left (by omega)
                    have fp := fp_begin eq a8 b8
                    have st5 := a8.1.2.2.2.1
                    have st2 := a8.1.2.2.1
                    have n9 : ju B6 598 66 0 629 r = E6 598 60 := (ju_c _ _ (by decide)).trans b8.1.2.2.1
                    have zz : ∀ (b : Nat), (b = 632 ∨ b = 634) → ∀ s : Int, 0 ≤ s → s < 2 → ju B6 598 66 0 b (2 * r + s) = 0 := fun b hb s s0 s1 => by
                      rw [ju_c _ _ (by omega)]
                      have q := b8.2.1 (2 * r + s) (by omega) (by omega)
                      rcases hb with rfl | rfl
                      · exact q.1
                      · exact q.2.2.1
                    have z2 := zz 632 (Or.inl rfl) 0 (by decide) (by decide)
                    have z4 := zz 634 (Or.inr rfl) 1 (by decide) (by decide)
                    have b60 : ju B6 598 66 0 600 x = R 600 x := by
                      rw [ju_c _ _ (by decide), b9 600 x (by decide) (by decide) (by decide) (by decide) (by decide) (by decide) (by decide) (by decide) (by decide) (by decide) (by decide) (by decide)]
                      exact t5
                    have frB : fr7 E B (xe (C 15 0).toNat r) := fun b k hb => a8.2.2.2 b k (by omega) (by omega) (by omega) (by omega) (by omega) (by omega) (by omega) (by omega)
                    have oB := O7.b b8 b9
                    have fin : FL D S (xe (C 15 0).toNat r) r ∧ D (xe (C 15 0).toNat r) 0 = B (xe (C 15 0).toNat r) 0 ∧ S 627 r = ju B6 598 66 0 627 r ∧ fr7 B D (xe (C 15 0).toNat r) ∧ O7 (ju B6 598 66 0) S r := by
                      rcases nxk_r hk with ⟨k, e⟩ | ⟨k, e⟩ | ⟨k, e⟩
                      · rw [hn6, e] at b10 n9
                        rcases a9 with ⟨a9, -⟩ | ⟨a9, a10, a11⟩
                        · rw [st2, eq.1.2, hn6, e] at a9
                          exact absurd a9 (by decide)
                        · exact fin1 fp (Or.inl rfl) (Or.inl rfl) n9 (Or.inl rfl) (by omega) a11 (by rw [st5, eq.1.2, hn6, e, if_neg (by omega), if_neg (by omega)]) b10 b60 (by unfold stOK; rw [if_neg (by decide)]; omega)
                      · rw [hn6, e] at b10 n9
                        rcases a9 with ⟨a9, B1, q2', a10, a11⟩ | ⟨a9, -⟩
                        · have ts : tsS (rf R x) (R 600 x) c1 (inf (rf R x) (R 600 x) c1 (ntf (rf R x) (R 600 x) c1)) = 0 := by
                            have m := may.e.2 a5
                            exact m.1 (by rw [hn6, e])
                          have tb : tsB (B (xe (C 15 0).toNat r) 5) (tsS (rf R x) (R 600 x) c1 (inf (rf R x) (R 600 x) c1 (ntf (rf R x) (R 600 x) c1))) 0 = 1 := by
                            rw [st5, eq.1.2, hn6, e, ts, if_pos rfl]
                            unfold tsB
                            rw [if_pos (by decide)]
                            exact xcv5_z.2.2
                          unfold TSQ at a10
                          rw [tb, ts] at a10
                          rcases a10 with ⟨a10, -⟩ | ⟨-, a10, -⟩ | ⟨-, -, a12, Bx, a13, a14⟩
                          · exact absurd a10 (by decide)
                          · omega
                          · have bx : Bx = B := by
                              rcases a13 with a13 | a13
                              · have := a13.1.2
                                rw [st5, eq.1.2, hn6, e, if_pos rfl] at this
                                omega
                              · exact a13.2
                            rw [bx] at a14
                            have dd : D = tiM B1 (xe (C 15 0).toNat r) 0 (C 0 8) (R 600 x) := by
                              rcases a11 with a11 | a11
                              · omega
                              · exact a11.2.2
                            rw [a14] at dd
                            rw [if_pos rfl] at b10
                            have tk2 : TKC (K6 (ju B6 598 66 0) r 6 (C 0 8) 1) (rf R x) (R 600 x) c1 x (inf (rf R x) (R 600 x) c1 (ntf (rf R x) (R 600 x) c1)) := tkc.e (fun b i h0 h1 => by rw [k6_f.2.2 b i (by omega), ju_c _ _ (by omega)]; exact b9 b i (by omega) (by omega) (by omega) (by omega) (by omega) (by omega) (by omega) (by omega) (by omega) (by omega) (by omega) (by omega)) (by rw [k6_f.2.2 598 6 (by omega), ju_i _ _ (by decide)]; exact b9 598 6 (by decide) (by decide) (by decide) (by decide) (by decide) (by decide) (by decide) (by decide) (by decide) (by decide) (by decide) (by decide)) (by rw [k6_f.2.2 598 65 (by omega), ju_i _ _ (by decide)]; exact b9 598 65 (by decide) (by decide) (by decide) (by decide) (by decide) (by decide) (by decide) (by decide) (by decide) (by decide) (by decide) (by decide))
                            have vv := tk2.v k
                            exact fin6 fp (Or.inl rfl) (Or.inl rfl) n9 (by omega) (by omega) dd b10 (by unfold ctE; rw [vv.2.2.1, vv.2.1]) vv.2.2.2 b60 (by decide)
                        · rw [st2, eq.1.2, hn6, e] at a9
                          exact absurd rfl a9
                      · rw [hn6, e] at b10 n9
                        rcases a9 with ⟨a9, -⟩ | ⟨a9, a10, a11⟩
                        · rw [st2, eq.1.2, hn6, e] at a9
                          exact absurd a9 (by decide)
                        · exact fin1 fp (Or.inl rfl) (Or.inl rfl) n9 (Or.inr rfl) (by omega) a11 (by rw [st5, eq.1.2, hn6, e, if_neg (by omega), if_neg (by omega)]) b10 b60 (by unfold stOK; rw [if_neg (by decide)]; omega)
                    obtain ⟨g1, g2, g3, g4, g5⟩ := fin
                    refine rest (one r (by omega) (by omega) (fun b k hb => (g4 b k hb).trans (frB b k hb)) (g5.t oB) ⟨?_, fun _ => g1⟩) rfl
                    rw [g2, g3, ju_c _ _ (by decide), a8.1.1, b8.1.1]
              · exact absurd a4 b5
            · -- the packet is of a flow
              rcases b4 with ⟨b5, -⟩ | ⟨-, b5⟩
              · exact absurd b5 a4
              · have rr := (fe6_r E6 24 0 (by decide)).resolve_left a4
                have s6 := (sd6_r E6 (fe6 E6 24 0)).resolve_left rr.2
                have w0 := wd.2 (fe6 E6 24 0) (by omega) (by omega)
                have fl := w0.2 s6.1.1
                have sd := sd_eq wd eq (f := fe6 E6 24 0) (by omega) (by omega)
                rw [v0] at fl sd w0
                have w0h := HIY.i w0
                clear w0
                have sz := b3.resolve_left a4
                rw [sd, ← sz] at a5
                have z1 : E6 598 66 = 0 ∨ E6 598 66 = 1 := by rw [sz]; exact s6.2
                have nx : E (xe (C 15 0).toNat (fe6 E6 24 0)) 2 = E6 598 60 := fl.1.2.1.trans s6.1.2
                have s634 : HIY (E6 598 66 = 0 ∨ E6 634 (2 * fe6 E6 24 0) = 1) := HIY.i (Or.inr fl.2.2.1.2)
                have ok := fl.2.2.2.2
                rw [s6.1.2] at ok
                have i634 := i01 634 (2 * fe6 E6 24 0 + 1) (Or.inr rfl)
                have done : ∀ g : Int, g = fe6 E6 24 0 → FL D S (xe (C 15 0).toNat g) g ∧ D (xe (C 15 0).toNat g) 0 = E (xe (C 15 0).toNat g) 0 ∧ S 627 g = E6 627 g ∧ fr7 E D (xe (C 15 0).toNat g) ∧ O7 E6 S g → RDw D S := fun g eg hh => one g (by omega) (by omega) hh.2.2.2.1 hh.2.2.2.2 ⟨by rw [hh.2.1, hh.2.2.1, eg]; exact w0h.e.1, fun _ => hh.1⟩
                rcases nxk_r hk with ⟨k, e⟩ | ⟨k, e⟩ | ⟨k, e⟩
                · have n1 : E6 598 60 = 1 := hn6.trans e
                  rcases b5 with ⟨b5, -⟩ | ⟨b5, -⟩ | ⟨b5, -⟩ | ⟨b5, b6, b7⟩
                  · omega
                  · omega
                  · omega
                  · rcases a5 with ⟨a7, -⟩ | ⟨a7, a8, a9⟩
                    · omega
                    · rw [a8, if_pos rfl] at a6
                      rw [n1] at b7 nx ok
                      rw [b6] at b7
                      have u7 : u7E E6 (fe6 E6 24 0) = (if E (xe (C 15 0).toNat (fe6 E6 24 0)) 2 = 17 ∧ E6 598 66 = 1 then 1 else E (xe (C 15 0).toNat (fe6 E6 24 0)) 5) := by
                        unfold u7E
                        rw [n1, nx, if_neg (by omega), if_neg (by omega), fl.1.2.2.1]
                        unfold stOK at ok
                        omega
                      refine rest (done _ rfl (fin1 fl.p z1 s634.e (s6.1.2.trans n1) (Or.inl rfl) i634 a9 u7 b7 t5 ?_)) (by omega)
                      rw [u7, nx, if_neg (by omega), fl.1.2.2.1]
                      exact ok
                · have n6 : E6 598 60 = 6 := hn6.trans e
                  have vv := tkc.v k
                  have s10 : 1 ≤ E6 638 (fe6 E6 24 0) ∧ E6 638 (fe6 E6 24 0) ≤ 10 := by
                    rw [n6] at ok
                    unfold stOK at ok
                    omega
                  have c5 : 0 ≤ clE E6 x ∧ clE E6 x ≤ 5 := scf_r _
                  have af := af_eq (g := fe6 E6 24 0) h76 rfl rfl rfl c5 s10 z1
                  have t5e : E (xe (C 15 0).toNat (fe6 E6 24 0)) 5 = E6 638 (fe6 E6 24 0) := fl.1.2.2.1
                  rcases a5 with ⟨a7, B1, q2', a8, a9⟩ | ⟨a7, -⟩
                  · unfold TSQ at a8
                    rw [t5e, ← vv.1, ← af, ← vv.2.1, ← vv.2.2.1] at a8
                    have iob : HIY ((clE E6 x = 2 ∨ clE E6 x = 4) → ioF E (xe (C 15 0).toNat (fe6 E6 24 0)) (E6 598 66) (sq6 E6 x) (lg6 E6 x) = io6 E6 x (fe6 E6 24 0) (clE E6 x)) := HIY.i (fun u => io_eq fl rfl z1 u rfl rfl)
                    rcases a8 with ⟨a10, a11, a12⟩ | ⟨a10, a11, a12, a13⟩ | ⟨a10, a11, a12, Bx, a13, a14⟩
                    · rcases b5 with ⟨-, b6, b7, b8⟩ | ⟨-, b6, -⟩ | ⟨-, b6, -⟩ | ⟨b6, -⟩
                      · have dd : r = -7 ∧ D = B1 := by
                          rcases a9 with a9 | a9
                          · rw [if_neg (by omega)] at a6
                            exact ⟨by omega, a9.2.2⟩
                          · omega
                        refine rest ?_ (by omega)
                        rw [dd.2, a12, b8]
                        exact wd
                      · exact absurd a10 b6
                      · exact absurd a10 b6
                      · exact absurd n6 b6
                    · rcases b5 with ⟨-, b6, -⟩ | ⟨-, b6, b7, b8, b9⟩ | ⟨-, b6, b7, -⟩ | ⟨b6, -⟩
                      · exact absurd b6 a10
                      · have dd : r = -8 ∧ D = B1 := by
                          rcases a9 with a9 | a9
                          · rw [if_neg (by omega)] at a6
                            exact ⟨by omega, a9.2.2⟩
                          · omega
                        refine rest ?_ (by omega)
                        rw [dd.2, a13, b9]
                        exact wd
                      · exact absurd ((iob.e a11.1).symm.trans a11.2) b7
                      · exact absurd n6 b6
                    · rcases b5 with ⟨-, b6, -⟩ | ⟨-, b6, b7, -⟩ | ⟨-, b6, b7, b8, B6, b9, b10⟩ | ⟨b6, -⟩
                      · exact absurd b6 a10
                      · exfalso
                        by_cases u : clE E6 x = 2 ∨ clE E6 x = 4
                        · exact a11 ⟨u, (iob.e u).trans b7⟩
                        · rw [io6_0 (Or.inl (by omega))] at b7
                          exact absurd b7 (by decide)
                      · subst b8
                        have dd : r = fe6 E6 24 0 ∧ D = tiM B1 (xe (C 15 0).toNat (fe6 E6 24 0)) (E6 598 66) (C 0 8) (R 600 x) := by
                          rcases a9 with a9 | a9
                          · omega
                          · rw [a9.2.1, if_pos rfl] at a6
                            exact ⟨a6, a9.2.2⟩
                        have bb : 1 ≤ afE E6 x (fe6 E6 24 0) ∧ afE E6 x (fe6 E6 24 0) ≤ 10 := by
                          rw [af] at a10 ⊢
                          unfold tsB at a10 ⊢
                          by_cases u : clE E6 x < 5 ∧ 1 ≤ E6 638 (fe6 E6 24 0) ∧ E6 638 (fe6 E6 24 0) ≤ 10
                          · rw [if_pos u] at a10 ⊢
                            have := xcv5_r (i := 10 * (E6 638 (fe6 E6 24 0) - 1) + 5 * E6 598 66 + clE E6 x) (by omega) (by omega)
                            omega
                          · rw [if_neg u] at a10
                            exact absurd rfl a10
                        have s0f : HIY (clE E6 x = 0 → 9 ≤ E6 638 (fe6 E6 24 0) → E6 598 66 = 0) := HIY.i fun u v => by
                          rcases z1 with y | y
                          · exact y
                          · exfalso
                            rw [af] at a10
                            apply a10
                            unfold tsB
                            rw [if_pos (by omega), u, y]
                            rcases (show E6 638 (fe6 E6 24 0) = 9 ∨ E6 638 (fe6 E6 24 0) = 10 by omega) with y2 | y2
                            · rw [y2]; exact xcv5_z.1
                            · rw [y2]; exact xcv5_z.2.1
                        have fpx : FP Bx B6 (xe (C 15 0).toNat (fe6 E6 24 0)) (fe6 E6 24 0) ∧ fr7 E Bx (xe (C 15 0).toNat (fe6 E6 24 0)) ∧ O7 E6 B6 (fe6 E6 24 0) ∧ Bx (xe (C 15 0).toNat (fe6 E6 24 0)) 0 = E (xe (C 15 0).toNat (fe6 E6 24 0)) 0 ∧ (∀ (b : Nat) (i : Int), (b < 632 ∨ 637 < b) → B6 b i = E6 b i) ∧ (E6 598 66 = 0 ∨ B6 634 (2 * fe6 E6 24 0) = 1) ∧ (0 ≤ B6 632 (2 * fe6 E6 24 0 + E6 598 66) ∧ B6 632 (2 * fe6 E6 24 0 + E6 598 66) ≤ 1) ∧ (0 ≤ B6 634 (2 * fe6 E6 24 0 + 1) ∧ B6 634 (2 * fe6 E6 24 0 + 1) ≤ 1) := by
                          rcases a13 with ⟨u, a13⟩ | ⟨u, a13⟩
                          · rcases b9 with ⟨v, b9, b11⟩ | ⟨v, b9⟩
                            · have q := b9.1 (2 * fe6 E6 24 0 + E6 598 66) (by omega) (by omega)
                              have q1 := b9.1 (2 * fe6 E6 24 0 + 1) (by omega) (by omega)
                              exact ⟨fp_forget fl a13 b9 b11, fun b k hb => a13.2.2.2 b k (by omega) (by omega) (by omega) (by omega) (by omega) (by omega), O7.g b9 b11, a13.2.2.1 0 (by decide), fun b i hb => b11 b i (by omega) (by omega) (by omega) (by omega) (by omega) (by omega), Or.inl v.2.1, by omega, by omega⟩
                            · exact absurd ⟨u.2, s0f.e u.1 u.2, u.1⟩ v
                          · rcases b9 with ⟨v, -⟩ | ⟨v, b9⟩
                            · exact absurd ⟨v.2.2, v.1⟩ u
                            · rw [a13, b9]
                              exact ⟨fl.p, fun _ _ _ => rfl, O7.r _ _, rfl, fun _ _ _ => rfl, s634.e, i01 632 _ (Or.inl rfl), i634⟩
                        obtain ⟨g1, g2, g3, g4, g5, g6, g7, g8⟩ := fpx
                        rw [n6] at b10
                        have tk2 : TKC (K6 B6 (fe6 E6 24 0) 6 (C 0 8) (afE E6 x (fe6 E6 24 0))) (rf R x) (R 600 x) c1 x (inf (rf R x) (R 600 x) c1 (ntf (rf R x) (R 600 x) c1)) := tkc.e (fun b i h0 h1 => by rw [k6_f.2.2 b i (by omega)]; exact g5 b i (by omega)) (by rw [k6_f.2.2 598 6 (by omega)]; exact g5 598 6 (by decide)) (by rw [k6_f.2.2 598 65 (by omega)]; exact g5 598 65 (by decide))
                        have v2 := tk2.v k
                        have d2 := dd.2
                        rw [a14] at d2
                        have ff := fin6 g1 z1 g6 ((g5 629 _ (by decide)).trans (s6.1.2.trans n6)) g7 g8 d2 b10 (by unfold ctE; rw [v2.2.2.1, v2.2.1, vv.2.2.1, vv.2.1]) v2.2.2.2 ((g5 600 x (by decide)).trans t5) bb
                        refine rest (done _ rfl ⟨ff.1, ff.2.1.trans g4, ff.2.2.1.trans (g5 627 _ (by decide)), fun b k hb => (ff.2.2.2.1 b k hb).trans (g2 b k hb), ff.2.2.2.2.t g3⟩) (by omega)
                      · exact absurd n6 b6
                  · exact absurd (nx.trans n6) a7
                · have n1 : E6 598 60 = 17 := hn6.trans e
                  rcases b5 with ⟨b5, -⟩ | ⟨b5, -⟩ | ⟨b5, -⟩ | ⟨b5, b6, b7⟩
                  · omega
                  · omega
                  · omega
                  · rcases a5 with ⟨a7, -⟩ | ⟨a7, a8, a9⟩
                    · omega
                    · rw [a8, if_pos rfl] at a6
                      rw [n1] at b7 nx ok
                      rw [b6] at b7
                      have lo : 0 ≤ E6 638 (fe6 E6 24 0) := by
                        rw [t1 638 _ (by decide) (by decide)]
                        have q := hI 638 (fe6 E6 24 0) (by decide)
                        rw [xri_row rfl rfl] at q
                        exact q.1
                      have u7 : u7E E6 (fe6 E6 24 0) = (if E (xe (C 15 0).toNat (fe6 E6 24 0)) 2 = 17 ∧ E6 598 66 = 1 then 1 else E (xe (C 15 0).toNat (fe6 E6 24 0)) 5) := by
                        unfold u7E
                        rw [n1, nx, fl.1.2.2.1]
                        unfold stOK at ok
                        (repeat' split) <;> omega
                      refine rest (done _ rfl (fin1 fl.p z1 s634.e (s6.1.2.trans n1) (Or.inr rfl) i634 a9 u7 b7 t5 ?_)) (by omega)
                      rw [u7, nx, fl.1.2.2.1]
                      unfold stOK at ok ⊢
                      split <;> omega
  · rcases p with ⟨p0, p1, p2⟩ | ⟨p0, -⟩
    · rcases q with ⟨q0, q1, q2⟩ | ⟨q0, -⟩
      · rw [p2, q2]
        exact ⟨h, by omega⟩
      · exact absurd q0.1 hx
    · exact absurd p0.1 hx
end
section
end
