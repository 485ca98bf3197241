section
theorem op_change {C D R S : jm} {r r2 : Int} (h : RDA C R) (hG : RG1 R) (hI : RI R) {x y : Int} (f : FR W_c_PacketWall_change_x C D) (p : (((x < 0 ∨ 23 < x ∨ C (xe (C 15 0).toNat x) 0 = 0) ∧ r = -2 ∧ D = C) ∨ (((0 ≤ x ∧ x ≤ 23) ∧ C (xe (C 15 0).toNat x) 0 ≠ 0) ∧ (((y < 0 ∨ 3 < y) ∧ r = -3 ∧ D = C) ∨ ((0 ≤ y ∧ y ≤ 3) ∧ (C (xe (C 15 0).toNat x) 1 ≠ 0 ∨ C (xe (C 15 0).toNat x) 2 = 1 ∨ C (xe (C 15 0).toNat x) 13 ≠ -1 ∨ C 28 y = 0) ∧ r = -4 ∧ D = C) ∨ (((0 ≤ y ∧ y ≤ 3) ∧ ¬ (C (xe (C 15 0).toNat x) 1 ≠ 0 ∨ C (xe (C 15 0).toNat x) 2 = 1 ∨ C (xe (C 15 0).toNat x) 13 ≠ -1 ∨ C 28 y = 0)) ∧ ((chf C (C 15 0).toNat (C 26 y) (C 27 y) (C 28 y).toNat 0 = -1 ∧ r = -5 ∧ D = C) ∨ (chf C (C 15 0).toNat (C 26 y) (C 27 y) (C 28 y).toNat 0 ≠ -1 ∧ r = C 27 y + chf C (C 15 0).toNat (C 26 y) (C 27 y) (C 28 y).toNat 0 ∧ D = ju (ju (ju C (xe (C 15 0).toNat x) 13 y) (xe (C 15 0).toNat x) 14 (C 26 y)) (xe (C 15 0).toNat x) 15 (C 27 y + chf C (C 15 0).toNat (C 26 y) (C 27 y) (C 28 y).toNat 0))))))) ) (q : (((x < 0 ∨ 23 < x ∨ R 627 x = 0) ∧ r2 = -2 ∧ S = R) ∨ (((0 ≤ x ∧ x ≤ 23) ∧ R 627 x ≠ 0) ∧ (((y < 0 ∨ 3 < y) ∧ r2 = -3 ∧ S = R) ∨ ((0 ≤ y ∧ y ≤ 3) ∧ (R 628 x ≠ 0 ∨ R 629 x = 1 ∨ R 640 x ≠ -1 ∨ R 643 y = 0) ∧ r2 = -4 ∧ S = R) ∨ (((0 ≤ y ∧ y ≤ 3) ∧ ¬ (R 628 x ≠ 0 ∨ R 629 x = 1 ∨ R 640 x ≠ -1 ∨ R 643 y = 0)) ∧ ((ch6 R (R 644 y) (R 645 y) (R 646 y).toNat 0 = -1 ∧ r2 = -5 ∧ S = R) ∨ (ch6 R (R 644 y) (R 645 y) (R 646 y).toNat 0 ≠ -1 ∧ r2 = R 645 y + ch6 R (R 644 y) (R 645 y) (R 646 y).toNat 0 ∧ S = ju (ju (ju R 640 x y) 641 x (R 644 y)) 642 x (R 645 y + ch6 R (R 644 y) (R 645 y) (R 646 y).toNat 0))))))) ) (hf : ∀ (a : Nat) (i : Int), a ≠ 640 → a ≠ 641 → a ≠ 642 → S a i = R a i) : RDA D S ∧ r = r2 := by
  have fin : ∀ (e1 : D = C) (e2 : S = R) (e3 : r = r2), RDA D S ∧ r = r2 := fun e1 e2 e3 => ⟨by rw [e1, e2]; exact h, e3⟩
  by_cases hx : 0 ≤ x ∧ x ≤ 23
  · have w := h.2.2.2.2.2.1.2 x (by omega) (by omega)
    by_cases hu : R 627 x = 0
    · rcases p with ⟨p0, p1, p2⟩ | ⟨p0, -⟩
      · rcases q with ⟨q0, q1, q2⟩ | ⟨q0, -⟩
        · exact fin p2 q2 (by omega)
        · exact absurd hu q0.2
      · exact absurd (w.1.trans hu) p0.2
    · have fl := w.2 hu
      rcases p with ⟨p0, -⟩ | ⟨-, p⟩
      · rw [w.1] at p0
        exact absurd p0 (by omega)
      · rcases q with ⟨q0, -⟩ | ⟨-, q⟩
        · exact absurd q0 (by omega)
        · by_cases hy : 0 ≤ y ∧ y ≤ 3
          · have ho := h.2.2.2.2.1.2 y (by omega) (by omega)
            have hz : C 28 y = 0 ↔ R 643 y = 0 := by
              by_cases z : R 643 y = 0
              · exact ⟨fun _ => z, fun _ => ho.1 z⟩
              · have := (ho.2 z).2.2.2
                exact ⟨fun v => by omega, fun v => absurd v z⟩
            rw [fl.1.1, fl.1.2.1, fl.1.2.2.2.2, hz] at p
            rcases p with ⟨p0, -⟩ | ⟨p0, p1, p2, p3⟩ | ⟨p0, p1⟩
            · exact absurd p0 (by omega)
            · rcases q with ⟨q0, -⟩ | ⟨q0, q1, q2, q3⟩ | ⟨q0, q1⟩
              · exact absurd q0 (by omega)
              · exact fin p3 q3 (by omega)
              · exact absurd p1 q0.2
            · rcases q with ⟨q0, -⟩ | ⟨q0, q1, q2, q3⟩ | ⟨q0, q1⟩
              · exact absurd q0 (by omega)
              · exact absurd q1 p0.2
              · have z : R 643 y ≠ 0 := fun v => q0.2 (Or.inr (Or.inr (Or.inr v)))
                obtain ⟨o1, o2, o3, o4⟩ := ho.2 z
                rw [o1, o2, o3, ch_eq h.2.2.2.2.2.1] at p1
                rcases p1 with ⟨a0, a1, a2⟩ | ⟨a0, a1, a2⟩ <;> rcases q1 with ⟨b0, b1, b2⟩ | ⟨b0, b1, b2⟩
                · exact fin a2 b2 (by omega)
                · exact absurd a0 b0
                · exact absurd b0 a0
                · have a := xfl (V := C 15 0) h.2.2.2.2.2.1.1.1 (i := x) (by omega)
                  refine ⟨⟨((h.1.f f rfl).r (fun i => hf 599 i (by decide) (by decide) (by decide)) (hf 598 1 (by decide) (by decide) (by decide))), ((h.2.1.f f rfl).r (fun a i _ _ => hf a i (by omega) (by omega) (by omega))), ((h.2.2.1.f f rfl).r (fun i _ _ => (hf 598 i (by decide) (by decide) (by decide)))), ((h.2.2.2.1.f f rfl).r (fun i => hf 622 i (by decide) (by decide) (by decide)) (hf 598 34 (by decide) (by decide) (by decide))), ((h.2.2.2.2.1.f f rfl).r (fun a i _ _ => hf a i (by omega) (by omega) (by omega))), ?_, ((h.2.2.2.2.2.2.f f rfl).r hG hI (fun a i _ _ => hf a i (by omega) (by omega) (by omega)))⟩, by omega⟩
                  have dt : ∀ k : Int, k ≠ 13 → k ≠ 14 → k ≠ 15 → D (xe (C 15 0).toNat x) k = C (xe (C 15 0).toNat x) k := fun k k1 k2 k3 => by rw [a2, ju_i _ _ k3, ju_i _ _ k2, ju_i _ _ k1]
                  have dd : ∀ (b : Nat) (k : Int), b ≠ (xe (C 15 0).toNat x) → D b k = C b k := fun b k hb => by rw [a2, ju_c _ _ hb, ju_c _ _ hb, ju_c _ _ hb]
                  have s0 : S 640 x = y := by rw [b2, ju_c _ _ (by decide), ju_c _ _ (by decide), ju_same]
                  have sb : ∀ (b : Nat) (j : Int), b ≠ 640 → b ≠ 641 → b ≠ 642 → S b j = R b j := fun b j h0 h1 h2 => by rw [b2, ju_c _ _ h2, ju_c _ _ h1, ju_c _ _ h0]
                  refine RDw.one h.2.2.2.2.2.1 (x := x) (by omega) (dd 15 0 (by omega)) (dd 15 1 (by omega)) (fun b k _ _ hb => dd b k (by omega)) ⟨fun b j hj hb => by rw [b2, ju_i _ _ hj, ju_i _ _ hj, ju_i _ _ hj], fun b j _ hb => sb b j (by omega) (by omega) (by omega)⟩ ⟨by rw [dt 0 (by decide) (by decide) (by decide), sb 627 x (by decide) (by decide) (by decide)]; exact w.1, fun _ => ?_⟩
                  obtain ⟨f1, f2, f3, f4, f5⟩ := fl
                  refine ⟨?_, fun s s0' s1 => ?_, ?_, Or.inr ⟨?_, ?_, ?_, ?_, ?_⟩, ?_⟩
                  · rw [dt 1 (by decide) (by decide) (by decide), dt 2 (by decide) (by decide) (by decide), dt 5 (by decide) (by decide) (by decide), dt 6 (by decide) (by decide) (by decide), sb 628 x (by decide) (by decide) (by decide), sb 629 x (by decide) (by decide) (by decide), sb 638 x (by decide) (by decide) (by decide), sb 639 x (by decide) (by decide) (by decide), s0]
                    refine ⟨f1.1, f1.2.1, f1.2.2.1, f1.2.2.2.1, ?_⟩
                    rw [a2, ju_i _ _ (by decide), ju_i _ _ (by decide), ju_same]
                  · rw [dd _ s (by omega), dd _ s (by omega), dd _ s (by omega), dd _ s (by omega), dd _ s (by omega), dd _ s (by omega), dd _ s (by omega), sb 630 _ (by decide) (by decide) (by decide), sb 631 _ (by decide) (by decide) (by decide), sb 635 _ (by decide) (by decide) (by decide), sb 636 _ (by decide) (by decide) (by decide), sb 637 _ (by decide) (by decide) (by decide), l6x_e (sb 632 _ (by decide) (by decide) (by decide)) (sb 633 _ (by decide) (by decide) (by decide)), sb 632 _ (by decide) (by decide) (by decide)]
                    exact f2 s s0' s1
                  · rw [dt 12 (by decide) (by decide) (by decide), sb 634 _ (by decide) (by decide) (by decide), sb 634 _ (by decide) (by decide) (by decide)]
                    exact f3
                  · rw [s0]; omega
                  · rw [a2, b2, ju_i _ _ (by decide), ju_same, ju_c _ _ (by decide), ju_same]
                  · rw [a2, b2, ju_same, ju_same]
                  · rw [sb 628 x (by decide) (by decide) (by decide)]; omega
                  · rw [sb 629 x (by decide) (by decide) (by decide)]; omega
                  · rw [sb 629 x (by decide) (by decide) (by decide), sb 638 x (by decide) (by decide) (by decide)]; exact f5
          · rcases p with ⟨p0, p1, p2⟩ | ⟨p0, -⟩ | ⟨p0, -⟩
            · rcases q with ⟨q0, q1, q2⟩ | ⟨q0, -⟩ | ⟨q0, -⟩
              · exact fin p2 q2 (by omega)
              · exact absurd q0 hy
              · exact absurd q0.1 hy
            · exact absurd p0 hy
            · exact absurd p0.1 hy
  · rcases p with ⟨p0, p1, p2⟩ | ⟨p0, -⟩
    · rcases q with ⟨q0, q1, q2⟩ | ⟨q0, -⟩
      · exact fin p2 q2 (by omega)
      · exact absurd q0.1 hx
    · exact absurd p0.1 hx
end
