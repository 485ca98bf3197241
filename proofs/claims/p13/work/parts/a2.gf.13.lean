section
theorem op_tick {C D R S : jm} {r r2 : Int} (h : RDA C R) (hG : RG1 R) (hI : RI R) {x : Int} (hT : C 0 8 = R 598 2) (f : FR W_c_PacketWall_tick_x C D) (p : ((1 ≤ x ∧ x ≤ 1000) ∧ r = C 0 8 + x ∧ D 0 8 = C 0 8 + x ∧ TGA C D (C 0 8 + x) 8 ∧ TFA C D (C 15 0).toNat (C 0 8 + x) 24) ∨ (¬ (1 ≤ x ∧ x ≤ 1000) ∧ r = -3 ∧ D = C)) (q : (((1 ≤ x ∧ x ≤ 1000) ∧ r2 = R 598 2 + x ∧ S 598 2 = R 598 2 + x ∧ (∀ j : Int, 0 ≤ j → j < 8 → S 606 j = if R 612 j ≤ R 598 2 + x then 0 else R 606 j) ∧ (∀ j : Int, 0 ≤ j → j < 24 → S 627 j = if R 639 j ≤ R 598 2 + x then 0 else R 627 j)) ∨ (¬ (1 ≤ x ∧ x ≤ 1000) ∧ r2 = -3 ∧ S = R))) (hf : ∀ (a : Nat) (i : Int), a ≠ 598 → a ≠ 606 → a ≠ 624 → a ≠ 627 → S a i = R a i) (hk : ∀ (i : Int), i ≠ 2 → S 598 i = R 598 i) : RDA D S ∧ r = r2 := by
  rcases p with ⟨p0, p1, p2, p3, p4⟩ | ⟨p0, p1, p2⟩ <;> rcases q with ⟨q0, q1, q2, q3, q4⟩ | ⟨q0, q1, q2⟩
  · refine ⟨⟨((h.1.f f rfl).r (fun i => hf 599 i (by decide) (by decide) (by decide) (by decide)) (hk 1 (by decide))), ((h.2.1.f f rfl).r (fun a i _ _ => hf a i (by omega) (by omega) (by omega) (by omega))), ((h.2.2.1.f f rfl).r (fun i _ _ => (hk i (by omega)))), ((h.2.2.2.1.f f rfl).r (fun i => hf 622 i (by decide) (by decide) (by decide) (by decide)) (hk 34 (by decide))), ((h.2.2.2.2.1.f f rfl).r (fun a i _ _ => hf a i (by omega) (by omega) (by omega) (by omega))), ?_, ?_⟩, by omega⟩
    · have e0 : D 15 0 = C 15 0 := f.g (show kd 15 = 9 from rfl) rfl
      have e1 : D 15 1 = C 15 1 := f.g (show kd 15 = 9 from rfl) rfl
      refine ⟨by rw [e0, e1]; exact h.2.2.2.2.2.1.1, fun i i0 i1 => ?_⟩
      rw [e0]
      have w := h.2.2.2.2.2.1.2 i i0 i1
      have k := kV h.2.2.2.2.2.1.1.1 i0 i1
      have kf := kF k
      have a := p4 i i0 i1
      have b := q4 i i0 i1
      refine ⟨?_, fun u => ?_⟩
      · rw [a, b, hT, w.1]
        by_cases z : R 627 i = 0
        · rw [z]; (repeat' split) <;> rfl
        · rw [(w.2 z).1.2.2.2.1]
          by_cases y : R 639 i ≤ R 598 2 + x
          · rw [if_pos ⟨by omega, y⟩, if_pos y]
          · rw [if_neg (by omega), if_neg y]
      · have z : R 627 i ≠ 0 := fun z => by
          rw [b, z] at u
          (split at u) <;> exact u rfl
        refine ((w.2 z).e (fun j hj => ?_) (fun d j d0 d1 => ?_)).r (fun b hb => hf b i (by omega) (by omega) (by omega) (by omega)) (fun b s b0 b1 _ _ => hf b _ (by omega) (by omega) (by omega) (by omega))
        · rcases hj with rfl | rfl | rfl | rfl | rfl | rfl | rfl | rfl <;> exact f.g k rfl
        · rcases (show d = 1 ∨ d = 2 ∨ d = 3 ∨ d = 4 ∨ d = 5 ∨ d = 6 ∨ d = 7 by omega) with rfl | rfl | rfl | rfl | rfl | rfl | rfl
          · exact f.g kf.1 rfl
          · exact f.g kf.2.1 rfl
          · exact f.g kf.2.2.1 rfl
          · exact f.g kf.2.2.2.1 rfl
          · exact f.g kf.2.2.2.2.1 rfl
          · exact f.g kf.2.2.2.2.2.1 rfl
          · exact f.g kf.2.2.2.2.2.2 rfl
    · have up : ∀ g : Int, 0 ≤ g → g < 8 → S 606 g ≠ 0 → R 606 g ≠ 0 := fun g g0 g1 u z => by
        rw [q3 g g0 g1, z] at u
        (split at u) <;> exact u rfl
      refine ⟨fun g k g0 g1 k0 k1 u v w => h.2.2.2.2.2.2.1 g k g0 g1 k0 k1 (up g g0 g1 u) (up k k0 k1 v) ?_, fun g g0 g1 => ?_⟩
      · rw [hf 607 _ (by decide) (by decide) (by decide) (by decide), hf 607 _ (by decide) (by decide) (by decide) (by decide), hf 608 _ (by decide) (by decide) (by decide) (by decide), hf 608 _ (by decide) (by decide) (by decide) (by decide), hf 609 _ (by decide) (by decide) (by decide) (by decide), hf 609 _ (by decide) (by decide) (by decide) (by decide), hf 610 _ (by decide) (by decide) (by decide) (by decide), hf 610 _ (by decide) (by decide) (by decide) (by decide), hf 611 _ (by decide) (by decide) (by decide) (by decide), hf 611 _ (by decide) (by decide) (by decide) (by decide)] at w
        exact w
      · have w := h.2.2.2.2.2.2.2 g g0 g1
        have k := kGa g0 g1
        have a := p3 g g0 g1
        have b := q3 g g0 g1
        refine ⟨?_, fun u => ?_⟩
        · rw [a, b, hT, w.1]
          by_cases z : R 606 g = 0
          · rw [z]; (repeat' split) <;> rfl
          · rw [(w.2 z).1.2.2.2.2.2]
            by_cases y : R 612 g ≤ R 598 2 + x
            · rw [if_pos ⟨by omega, y⟩, if_pos y]
            · rw [if_neg (by omega), if_neg y]
        · have z := up g g0 g1 u
          have z2 := RG1.q hG hI g0 z
          refine ((w.2 z).e (fun j hj => ?_) (fun j => f.g (kf_15_9 k).2 rfl) (fun j => f.g (kf_15_10 k).2 rfl)).r z2.1 z2.2 (fun b b0 b1 _ _ _ => hf b g (by omega) (by omega) (by omega) (by omega)) (fun k _ _ => ⟨hf 615 _ (by decide) (by decide) (by decide) (by decide), hf 616 _ (by decide) (by decide) (by decide) (by decide)⟩) (fun k _ _ => hf 618 _ (by decide) (by decide) (by decide) (by decide))
          rcases hj with rfl | rfl | rfl | rfl | rfl | rfl | rfl | rfl | rfl | rfl | rfl <;> exact f.g k rfl
  · exact absurd p0 q0
  · exact absurd q0 p0
  · rw [p2, q2]
    exact ⟨h, by omega⟩
theorem row_eq {C R : jm} {t : Nat} {f Z : Int} (h : FL C R t f) (hI : RI R) (hT : Z = R 598 2) : rcB C t Z = B6x R f := by
  have a := h.s0
  have b := h.s1
  have st : (0 : Int) ≤ R 638 f ∧ R 638 f ≤ 15 := by have q := hI 638 f (by decide); rw [xri_row rfl rfl] at q; exact q
  have fg : flgF C t = flg6 R f := by
    unfold flgF flg6
    rw [h.1.1, a.2.2.1, b.2.2.1, h.2.2.1.1]
  have fr : 0 ≤ flg6 R f ∧ flg6 R f ≤ 240 := by
    unfold flg6
    (repeat' split) <;> omega
  unfold rcB B6x
  rw [fg, h.1.2.1, h.1.2.2.1, h.1.2.2.2.1, a.1.1, a.1.2.1, a.1.2.2, a.2.1.1, a.2.1.2, a.2.2.2, b.1.1, b.1.2.1, b.1.2.2, b.2.1.1, b.2.1.2, b.2.2.2, hT, j_w_id (by omega)]
theorem ex_eq {C R : jm} (h : RDw C R) (hI : RI R) {Z : Int} (hT : Z = R 598 2) (f : Int → Int) : exL (uC C (C 15 0).toNat) (bC C (C 15 0).toNat Z) f 24 = exL (u6x R) (B6x R) f 24 := exL_e 24 (fun i i0 i1 => by
  have w := h.2 i i0 (by omega)
  by_cases u : R 627 i = 0
  · rw [uC_0 (by rw [w.1]; omega), u6_0 (by omega)]
    exact ⟨rfl, fun v => absurd rfl v⟩
  · have fl := w.2 u
    refine ⟨?_, fun _ => row_eq fl hI hT⟩
    unfold uC u6x
    rw [w.1, fl.1.2.2.2.2])
theorem op_export {C D R S : jm} {r r2 : Int} (h : RDA C R) (hG : RG1 R) (hI : RI R) (hT : C 0 8 = R 598 2) (f : FR W_c_PacketWall_export_x C D) (p : (D 1 = (exL (uC C (C 15 0).toNat) (bC C (C 15 0).toNat (C 0 8)) (C 1) 24).1 ∧ r = (exL (uC C (C 15 0).toNat) (bC C (C 15 0).toNat (C 0 8)) (C 1) 24).2) ∧ D 0 1 = r) (q : (S 599 = (exL (u6x R) (B6x R) (R 599) 24).1 ∧ S 598 1 = (exL (u6x R) (B6x R) (R 599) 24).2 ∧ r2 = S 598 1)) (hf : ∀ (a : Nat) (i : Int), a ≠ 598 → a ≠ 599 → S a i = R a i) (hk : ∀ (i : Int), i ≠ 1 → S 598 i = R 598 i) : RDA D S ∧ r = r2 := by
  rw [ex_eq h.2.2.2.2.2.1 hI hT, h.1.1] at p
  have e : r = r2 := by rw [q.2.2, q.2.1, p.1.2]
  refine ⟨⟨?_, ((h.2.1.f f rfl).r (fun a i _ _ => hf a i (by omega) (by omega))), ((h.2.2.1.f f rfl).r (fun i _ _ => (hk i (by omega)))), ((h.2.2.2.1.f f rfl).r (fun i => hf 622 i (by decide) (by decide)) (hk 34 (by decide))), ((h.2.2.2.2.1.f f rfl).r (fun a i _ _ => hf a i (by omega) (by omega))), ((h.2.2.2.2.2.1.f f rfl).r (fun a i _ _ => hf a i (by omega) (by omega))), ((h.2.2.2.2.2.2.f f rfl).r hG hI (fun a i _ _ => hf a i (by omega) (by omega)))⟩, e⟩
  exact ⟨by rw [p.1.1, q.1], by rw [p.2, e, q.2.2]⟩
theorem rr_fl {D S : jm} {t : Nat} {k Z L : Int} {g : Int → Int} (h1 : RRD D t g (48 * k) Z) (h2 : RR6 S k g (48 * k) Z) (ok : okR g L k) : FL D S t k := by
  obtain ⟨⟨a0, a1, a2, a3, a4, a5⟩, as, a6, a7⟩ := h1
  obtain ⟨⟨b0, b1, b2, b3⟩, bs, b4, b5, b6, b7, b8⟩ := h2
  have lv := ok.2.1.2.2.2.2
  have x0 := bs 0 (by decide) (by decide)
  have x1 := bs 1 (by decide) (by decide)
  unfold S6 at x0 x1
  simp only [Int.add_zero] at x0
  refine ⟨⟨a1.trans b3.symm, a2.trans b1.symm, a3.trans b2.symm, ?_, a4.trans b0.symm⟩, fun s s0 s1 => ?_, ⟨?_, ?_⟩, Or.inl ⟨b0, a5⟩, ?_⟩
  · rw [a7, b4, if_pos lv]
  · have u := as s s0 s1
    have v := bs s s0 s1
    refine ⟨⟨u.1.2.2.1.trans v.2.2.2.2.1.symm, u.1.1.trans v.2.2.1.symm, u.1.2.1.trans v.2.2.2.1.symm⟩, ⟨?_, ?_⟩, u.1.2.2.2.trans v.1.symm, ?_⟩
    · rw [u.2.2.1]
      unfold tPk
      rcases (show s = 0 ∨ s = 1 by omega) with rfl | rfl
      · rw [if_pos rfl, Int.add_zero, b5]
      · rw [if_neg (by decide), b6]
    · rw [u.2.2.2]
      unfold tBy
      rcases (show s = 0 ∨ s = 1 by omega) with rfl | rfl
      · rw [if_pos rfl, Int.add_zero, b7]
      · rw [if_neg (by decide), b8]
    · rw [u.2.1]
      unfold tLa l6x
      rw [v.1, v.2.2.2.2.2]
  · rw [a6, x1.2.1, if_neg (by decide)]
  · rw [x0.2.1]; simp
  · rw [b1, b2]
    exact ok.2.1.2.1
end
