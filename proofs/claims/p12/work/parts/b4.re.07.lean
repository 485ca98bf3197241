section
theorem op_gather {C D R S : jm} {r r2 : Int} (h : RDA C R) (hG : RG1 R) (hI : RI R) (hI2 : RI S) {x : Int} (hT : C 0 8 = R 598 2) (f : FR W_c_PacketWall_gather_x C D) (p : (((x < 0 ∨ 23 < x ∨ C (xe 2 x) 1 = -1) ∧ r = -2 ∧ NH C D) ∨ (((0 ≤ x ∧ x ≤ 23) ∧ C (xe 2 x) 1 ≠ -1) ∧ ∃ c : Int, HE (rf R x) (C (xe 2 x) 1) c ∧ GAQ C D (rf R x) (C (xe 2 x) 1) c (C 0 8) (rf R) r))) (q : GAR R S x r2) (hf : ∀ (a : Nat) (i : Int), a ≠ 598 → a ≠ 600 → a ≠ 601 → a ≠ 602 → a ≠ 603 → a ≠ 604 → a ≠ 605 → a ≠ 606 → a ≠ 607 → a ≠ 608 → a ≠ 609 → a ≠ 610 → a ≠ 611 → a ≠ 612 → a ≠ 613 → a ≠ 614 → a ≠ 615 → a ≠ 616 → a ≠ 617 → a ≠ 618 → a ≠ 619 → a ≠ 620 → a ≠ 621 → a ≠ 622 → S a i = R a i) (hk : ∀ (i : Int), i ≠ 6 → i ≠ 10 → i ≠ 11 → i ≠ 12 → i ≠ 34 → S 598 i = R 598 i) : RDA D S ∧ r = r2 := by
  have rest : RDp D S ∧ RDl D S ∧ RDg D S → RDA D S := fun a => ⟨((h.1.f f rfl).r (fun i => hf 599 i (by decide) (by decide) (by decide) (by decide) (by decide) (by decide) (by decide) (by decide) (by decide) (by decide) (by decide) (by decide) (by decide) (by decide) (by decide) (by decide) (by decide) (by decide) (by decide) (by decide) (by decide) (by decide) (by decide) (by decide)) (hk 1 (by decide) (by decide) (by decide) (by decide) (by decide))), a.1, ((h.2.2.1.f f rfl).r (fun i _ _ => (hk i (by omega) (by omega) (by omega) (by omega) (by omega)))), a.2.1, ((h.2.2.2.2.1.f f rfl).r (fun a i _ _ => hf a i (by omega) (by omega) (by omega) (by omega) (by omega) (by omega) (by omega) (by omega) (by omega) (by omega) (by omega) (by omega) (by omega) (by omega) (by omega) (by omega) (by omega) (by omega) (by omega) (by omega) (by omega) (by omega) (by omega) (by omega))), ((h.2.2.2.2.2.1.f f rfl).r (fun a i _ _ => hf a i (by omega) (by omega) (by omega) (by omega) (by omega) (by omega) (by omega) (by omega) (by omega) (by omega) (by omega) (by omega) (by omega) (by omega) (by omega) (by omega) (by omega) (by omega) (by omega) (by omega) (by omega) (by omega) (by omega) (by omega))), a.2.2⟩
  have early : NH C D → LKO R S → RDp D S ∧ RDl D S ∧ RDg D S := fun n k => ⟨(h.2.1.n n).r (fun a i _ _ => k.1 a i (by omega) (by omega) (by omega) (by omega)), (h.2.2.2.1.n n).r (fun i => k.1 622 i (by decide) (by decide) (by decide) (by decide)) (k.2 34 (by decide) (by decide) (by decide) (by decide)), (h.2.2.2.2.2.2.n n).r hG hI (fun a i _ _ => k.1 a i (by omega) (by omega) (by omega) (by omega))⟩
  have lr : LKO R R := ⟨fun _ _ _ _ _ _ => rfl, fun _ _ _ _ _ => rfl⟩
  have hb := rf_r hI x
  by_cases hx : 0 ≤ x ∧ x ≤ 23
  · have hN := (h.2.1 x (by omega) (by omega)).1
    have bN : (-1 : Int) ≤ R 600 x ∧ R 600 x ≤ 400 := by have q := hI 600 x (by decide); rw [xri_row rfl rfl] at q; exact q
    rw [hN] at p
    rcases p with ⟨p0, p1, p2⟩ | ⟨p0, c, p1, p2⟩
    · rcases q with ⟨q0, q1, q2⟩ | ⟨q0, -⟩ | ⟨h', t, k, g, o, cc, e, M3, M4, M5, ⟨Rb, i, ⟨R1, px, -⟩, -⟩, -⟩
      · rw [q2] at early ⊢
        rw [q2] at rest
        exact ⟨rest (early p2 lr), by omega⟩
      · omega
      · have := px.2.2.2.2.2.2.2.1
        omega
    · rcases q with ⟨q0, q1, q2⟩ | ⟨-, R1, q1, q2, q3⟩ | ⟨h', t, k, g2, o, cc, e, M3, M4, M5, ⟨Rb, i, ⟨R1, px, ⟨e1, e2, e3⟩, e4, e5, e6⟩, e7⟩, e8, e9, e10, e11⟩
      · omega
      · have ec := HE.u p1 q2
        rw [← ec] at q3
        have rg : ∀ M2 : jm, NH C M2 → RDg M2 R1 := fun M2 n => (h.2.2.2.2.2.2.n n).r hG hI (fun a i _ _ => q1.1 a i (by omega) (by omega) (by omega) (by omega))
        rcases p2 with ⟨a1, a2, a3⟩ | ⟨a1, a2, M2, a3, a4, a5⟩ <;> rcases q3 with ⟨b1, b2, b3⟩ | ⟨b1, b2⟩
        · rw [← b3] at q1
          exact ⟨rest (early a3 q1), by omega⟩
        · omega
        · omega
        · have pr := (pcf_r (f := rf R x) (N := R 600 x) p1.1.1).resolve_left a2
          have gs : gS M2 8 0 = g6 R1 (rf R x) (R 600 x) c (pcf (rf R x) (R 600 x) c) := ga_s (rg M2 a3) (a4.1.trans (kA_i pr.1)) a4.2.1 a4.2.2.1 a4.2.2.2.1 a4.2.2.2.2
          have ge := ga_e (rg M2 a3) 8 0 (by decide) (by decide)
          have fs : fstv M2 = fst6 R1 (rf R x) (R 600 x) c (pcf (rf R x) (R 600 x) c) := by
            unfold fstv fst6
            rw [gs]
            by_cases u : g6 R1 (rf R x) (R 600 x) c (pcf (rf R x) (R 600 x) c) = -1
            · rw [if_pos (Or.inl u), if_pos (Or.inl u)]
            · have s := (gL_p R1 (hX (rf R x) (R 600 x) (pcf (rf R x) (R 600 x) c)) (adf (rf R x) (R 600 x) c (ntf (rf R x) (R 600 x) c) 0) (adf (rf R x) (R 600 x) c (ntf (rf R x) (R 600 x) c) 1) (vA (rf R x) (R 600 x) c (pcf (rf R x) (R 600 x) c) 3) (vA (rf R x) (R 600 x) c (pcf (rf R x) (R 600 x) c) (if kA (rf R x) (R 600 x) c (pcf (rf R x) (R 600 x) c) = 2 then 7 else 0)) 8).resolve_left (fun v => u v.1)
              have w := ((rg M2 a3).2 (g6 R1 (rf R x) (R 600 x) c (pcf (rf R x) (R 600 x) c)) s.1.1 (by exact s.1.2)).2 s.2.1
              rw [w.2.2.1.1]
          rw [← fs, ← gs, ← ge] at b2
          have dd : r = r2 ∧ D = M2 ∧ S = R1 := by
            rcases a5 with ⟨c1, c2, c3⟩ | ⟨c1, c2, c3, c4, c5⟩ | ⟨c1, g, M3, M4, c2, -⟩ <;> rcases b2 with ⟨d1, d2, d3⟩ | ⟨d1, d2, d3, d4⟩
            · exact ⟨by omega, c3, d3⟩
            · exact absurd c1 d1
            · exact absurd d1 c1
            · exact ⟨by omega, c5, d4⟩
            · exact absurd d1 c1
            · rcases c2 with c2 | c2
              · exact absurd d2.1 c2.1
              · exact absurd (c2.2.1.trans d2.2) c2.2.2.1
          rw [← dd.2.2] at q1
          rw [← dd.2.1] at a3
          exact ⟨rest (early a3 q1), dd.1⟩
      · have q2 := px.2.1
        have ec := HE.u p1 q2.1
        have lk := px.2.2.2.2.2.2.2.2
        have hc := px.c
        have hk := px.2.2.2.2.1
        have hh := px.2.2.1
        have ht := px.2.2.2.1
        have ht1 := px.1
        rw [← ec] at e1 e2 e3 e4 e5 e6 hc q2 hh ht ht1
        rcases p2 with ⟨a1, -⟩ | ⟨a1, a2, M2, a3, a4, a5⟩
        · have h1 := q2.2
          have h2 := hh.1
          have h3 := hh.2
          omega
        · rw [← hh.1] at a4
          have rg : RDg M2 R1 := (h.2.2.2.2.2.2.n a3).r hG hI (fun a i _ _ => lk.1 a i (by omega) (by omega) (by omega) (by omega))
          have k26 : (hX (rf R x) (R 600 x) h' = 2 ∧ t = h') ∨ hX (rf R x) (R 600 x) h' = 6 := by
            rcases hc.2 with u | u
            · exact Or.inl ⟨by rw [← hk]; exact u.1, u.2⟩
            · exact Or.inr (by rw [← hk]; exact u.1)
          have kA' : kA (rf R x) (R 600 x) c h' = hX (rf R x) (R 600 x) h' := kA_i hc.1
          have gs : gS M2 8 0 = g6 R1 (rf R x) (R 600 x) c h' := ga_s rg (a4.1.trans kA') a4.2.1 a4.2.2.1 a4.2.2.2.1 a4.2.2.2.2
          have ge := ga_e rg 8 0 (by decide) (by decide)
          have fs : fstv M2 = fst6 R1 (rf R x) (R 600 x) c h' := by
            unfold fstv fst6
            rw [gs]
            by_cases u : g6 R1 (rf R x) (R 600 x) c h' = -1
            · rw [if_pos (Or.inl u), if_pos (Or.inl u)]
            · have s := (gL_p R1 (hX (rf R x) (R 600 x) h') (adf (rf R x) (R 600 x) c (ntf (rf R x) (R 600 x) c) 0) (adf (rf R x) (R 600 x) c (ntf (rf R x) (R 600 x) c) 1) (vA (rf R x) (R 600 x) c h' 3) (vA (rf R x) (R 600 x) c h' (if kA (rf R x) (R 600 x) c h' = 2 then 7 else 0)) 8).resolve_left (fun v => u v.1)
              have w := (rg.2 (g6 R1 (rf R x) (R 600 x) c h') s.1.1 (by exact s.1.2)).2 s.2.1
              rw [w.2.2.1.1]
          unfold GAK at a5
          rw [← hh.1, fs] at a5
          rcases a5 with ⟨c1, -⟩ | ⟨c1, c2, c3, -⟩ | ⟨c1, g, N3, N4, c2, c3, c4⟩
          · exact absurd c1 e4
          · rcases e6 with d | d
            · exact absurd (gs.symm.trans c2) d.1
            · exact absurd (d.2.1.trans (ge.symm.trans c3)) d.2.2.1
          · obtain ⟨⟨g0, g1, g2'⟩, gl, gl0, ⟨gk, gn⟩, gf, gu, gm, gr, gr6, gr0⟩ := ga_b rg c2 e6 a4 kA' (k26.elim (fun u => Or.inl u.1) Or.inr) (hT.trans (lk.2 2 (by decide) (by decide) (by decide) (by decide)).symm)
            rw [← g0] at e7 e8 e9 e10
            have hoo := ofs_r hc.1 (k26.elim (fun u => Or.inl u.1) Or.inr)
            have ho : 0 ≤ ofs (rf R x) (R 600 x) c h' := by unfold ofs; omega
            have f61 : rf Rb x = rf R x := rf_e (fun i => (gr0 601 i (by decide)).trans (lk.1 601 i (by decide) (by decide) (by decide) (by decide)))
            have hd : ∀ j : Int, 0 ≤ j → j < c → Rb 603 j = hX (rf R x) (R 600 x) j ∧ Rb 604 j = hY (rf R x) (R 600 x) j ∧ Rb 605 j = hZ (rf R x) (R 600 x) j ∧ 0 ≤ hY (rf R x) (R 600 x) j ∧ hY (rf R x) (R 600 x) j + hZ (rf R x) (R 600 x) j ≤ R 600 x ∧ 0 ≤ hZ (rf R x) (R 600 x) j ∧ (hX (rf R x) (R 600 x) j = 2 → 20 ≤ hZ (rf R x) (R 600 x) j) ∧ (hX (rf R x) (R 600 x) j = 6 → 8 ≤ hZ (rf R x) (R 600 x) j) := fun j j0 j1 => by
              have a := HT.f ht1 (x := j) ⟨j0, j1⟩
              have y0 := hst_y (f := rf R x) (N := R 600 x) (fun i _ _ => hb i) bN.2 j.toNat (fun i h0 h1 => p1.2.1 i h0 (by omega))
              rw [Int.toNat_of_nonneg j0] at y0
              have z8 := (hsZ_r (fun i _ _ => hb i) bN.2 (hsF_z (p1.2.1 j j0 j1).2).2.1).2
              refine ⟨(gr0 603 j (by decide)).trans a.1, (gr0 604 j (by decide)).trans a.2.1, (gr0 605 j (by decide)).trans a.2.2.1, y0, a.2.2.2.2.1, a.2.2.2.2.2.1, fun u => ?_, fun u => ?_⟩
              · have := a.2.2.2.2.2.2
                omega
              · have z9 : hZ (rf R x) (R 600 x) j = 8 := z8.resolve_left (fun v => v u)
                omega
            have tt : t = ntf (rf R x) (R 600 x) c ∧ (0 ≤ t ∧ t < c) := ⟨ht, by
              rcases hc.2 with u | u
              · rw [u.2]; exact hc.1
              · exact u.2.2⟩
            rw [e1, e2, e3] at e8
            rw [e1, e2] at e7
            rw [e1] at e9
            have w614 : N3 (xe 10 g) 7 = Rb 614 g := gl.2.2.1.1
            have hi : (i = 1 ∧ mrf (rf R x) (R 600 x) c h' ≠ 1 ∧ N3 (xe 10 g) 7 = -1) ∨ (i = 0 ∧ ¬ (mrf (rf R x) (R 600 x) c h' ≠ 1 ∧ N3 (xe 10 g) 7 = -1)) := by
              rw [gf] at e5
              exact e5
            have rq := e4
            unfold rfq at rq
            obtain ⟨tl, tdl, tr, tr6, tr8, tlo⟩ := ga_t g1 gl hc.1 ho (rfq_d e4) hi (fun u v => by have := gf.2 v; omega) e7 e8 e9 f61 hb bN.2 gk gn tt k26 hd c3
            have xg := xgx (g := g) ⟨g1, g2'⟩
            have cl : ∀ (b : Nat) (k : Int), (kd b < 18 ∨ 21 < kd b) → b ≠ 11 → b ≠ 14 → b ≠ xe 10 g → b ≠ xe 10 g + 1 → b ≠ xe 10 g + 2 → N4 b k = C b k := fun b k u1 u2 u3 u4 u5 u6 => (c3.1.2.2.2 b k u4 u5 u6 u3).trans ((gm b k u4 u5).trans (a3 b k u1 u2))
            have rl : ∀ (b : Nat) (j : Int), b < 606 → b ≠ 598 → b ≠ 603 → b ≠ 604 → b ≠ 605 → M5 b j = R b j := fun b j u1 u2 u3 u4 u5 => (tlo b j (by omega) u2).trans ((gr0 b j (by omega)).trans (lk.1 b j u2 u3 u4 u5))
            have hp5 : RDp N4 M5 := fun b b0 b1 => by
              have k := kP b0 b1
              have xb := xpk (g := b) ⟨b0, b1⟩
              refine ⟨?_, fun j j0 j1 => ?_⟩
              · rw [cl _ 1 (by rw [k.1]; decide) (by omega) (by omega) (by omega) (by omega) (by omega), rl 600 b (by decide) (by decide) (by decide) (by decide) (by decide)]
                exact (h.2.1 b b0 b1).1
              · rw [cl _ j (by rw [k.2]; decide) (by omega) (by omega) (by omega) (by omega) (by omega), rl 601 _ (by decide) (by decide) (by decide) (by decide) (by decide)]
                exact (h.2.1 b b0 b1).2 j j0 j1
            have l0 : N4 (xe 10 g) 0 = M5 606 g := by
              rw [c3.1.2.1 0 (by decide) (by decide) (by decide) (by decide) (by decide), tlo 606 g (by decide) (by decide)]
              exact gl0.1
            have h0 : M5 617 g ≠ -1 → 0 ≤ M5 621 g := fun _ => by
              rw [← e11 621 g (by decide) (by decide) (by decide) (by decide)]
              have q := hI2 621 g (by decide)
              rw [xri_row rfl rfl] at q
              exact q.1
            obtain ⟨z1, z2, z3, z4, z5, z6⟩ := ga_z ⟨g1, g2'⟩ tl l0 hp5 (fun p => (rf_e (fun i => rl 601 i (by decide) (by decide) (by decide) (by decide) (by decide))).symm) h0 c4 e10
            refine ⟨rest ⟨z2, fun k k0 k1 => ?_, ?_, fun j j0 j1 => ?_⟩, z1⟩
            · rw [z4 14 k (by decide) (by omega), e11 598 34 (by decide) (by decide) (by decide) (by decide), e11 622 k (by decide) (by decide) (by decide) (by decide)]
              exact tdl k k0 k1
            · intro a b a0 a1 b0 b1 u v w
              have ee : ∀ (n : Nat) (j : Int), 607 ≤ n → n ≤ 611 → S n j = Rb n j := fun n j u1 u2 => (e11 n j (by omega) (by omega) (by omega) (by omega)).trans (tlo n j (by omega) (by omega))
              have e6' : ∀ j : Int, S 606 j ≠ 0 → Rb 606 j ≠ 0 := fun j u => by
                by_cases e : j = g
                · rw [e]; exact gl0.2
                · rw [z5 j e, tlo 606 j (by decide) (by decide)] at u
                  exact u
              rw [ee 607 _ (by decide) (by decide), ee 607 _ (by decide) (by decide), ee 608 _ (by decide) (by decide), ee 608 _ (by decide) (by decide), ee 609 _ (by decide) (by decide), ee 609 _ (by decide) (by decide), ee 610 _ (by decide) (by decide), ee 610 _ (by decide) (by decide), ee 611 _ (by decide) (by decide), ee 611 _ (by decide) (by decide)] at w
              exact gu a b a0 a1 b0 b1 (e6' a u) (e6' b v) w
            · by_cases e : j = g
              · rw [e]; exact z3
              · have xj := xgx (g := j) ⟨j0, j1⟩
                have k := kGa j0 j1
                have k1 := (kf_15_9 k).2
                have k2 := (kf_15_10 k).2
                have y := h.2.2.2.2.2.2.2 j j0 j1
                have sR : ∀ b : Nat, 606 ≤ b → b ≤ 621 → b ≠ 615 → b ≠ 616 → b ≠ 618 → S b j = R b j := fun b u1 u2 u3 u4 u5 => by
                  have s1 : S b j = M5 b j := by
                    by_cases v : b = 606
                    · rw [v]; exact z5 j e
                    · exact e11 b j (by omega) (by omega) (by omega) v
                  rw [s1, tr b j u3 u4 u5 (by omega) (by omega) e, gr b j u4 e, lk.1 b j (by omega) (by omega) (by omega) (by omega)]
                have D0 : ∀ i : Int, D (xe 10 j) i = C (xe 10 j) i := fun i => (z4 _ i (by omega) (by omega)).trans (cl _ i (by rw [k]; decide) (by omega) (by omega) (by omega) (by omega) (by omega))
                have D1 : ∀ i : Int, D (xe 10 j + 1) i = C (xe 10 j + 1) i := fun i => (z4 _ i (by omega) (by omega)).trans (cl _ i (by rw [k1]; decide) (by omega) (by omega) (by omega) (by omega) (by omega))
                have D2 : ∀ i : Int, D (xe 10 j + 2) i = C (xe 10 j + 2) i := fun i => (z4 _ i (by omega) (by omega)).trans (cl _ i (by rw [k2]; decide) (by omega) (by omega) (by omega) (by omega) (by omega))
                refine ⟨by rw [D0, sR 606 (by decide) (by decide) (by decide) (by decide) (by decide)]; exact y.1, fun u => ?_⟩
                rw [sR 606 (by decide) (by decide) (by decide) (by decide) (by decide)] at u
                have z := RG1.q hG hI j0 u
                refine ((y.2 u).r z.1 z.2 (fun b b0 b1 b2 b3 b4 => sR b (by omega) b1 b2 b3 b4) (fun k k0 k1 => ?_) (fun k k0 k1 => ?_)).e (fun i _ => D0 i) D1 D2
                · have o1 : 360 * j + k < 360 * g ∨ 360 * g + 360 ≤ 360 * j + k := by omega
                  rw [e11 615 _ (by decide) (by decide) (by decide) (by decide), e11 616 _ (by decide) (by decide) (by decide) (by decide), (tr6 _ o1).1, (tr6 _ o1).2, gr6 _ o1, gr0 615 _ (by decide), lk.1 615 _ (by decide) (by decide) (by decide) (by decide), lk.1 616 _ (by decide) (by decide) (by decide) (by decide)]
                  exact ⟨rfl, rfl⟩
                · have o1 : 400 * j + k < 400 * g ∨ 400 * g + 400 ≤ 400 * j + k := by omega
                  rw [e11 618 _ (by decide) (by decide) (by decide) (by decide), tr8 _ o1, gr0 618 _ (by decide), lk.1 618 _ (by decide) (by decide) (by decide) (by decide)]
  · rcases p with ⟨p0, p1, p2⟩ | ⟨p0, -⟩
    · rcases q with ⟨q0, q1, q2⟩ | ⟨q0, -⟩ | ⟨h', t, k, g, o, cc, e, M3, M4, M5, ⟨Rb, i, ⟨R1, px, -⟩, -⟩, -⟩
      · rw [q2] at early ⊢
        rw [q2] at rest
        exact ⟨rest (early p2 lr), by omega⟩
      · exact absurd q0.1 hx
      · exact absurd px.2.2.2.2.2.2.2.1.1 hx
    · exact absurd p0.1 hx
end
section
end
