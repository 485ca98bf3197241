section
theorem op_drop {C D R S : jm} {r r2 : Int} (h : RDA C R) (hG : RG1 R) (hI : RI R) {x : Int} (f : FR W_c_PacketWall_drop_x C D) (p : (((x < 0 ∨ 23 < x) ∧ r = -3 ∧ D = C) ∨ ((0 ≤ x ∧ x ≤ 23) ∧ ((C (xe 2 x) 1 = -1 ∧ r = 0) ∨ (C (xe 2 x) 1 ≠ -1 ∧ r = 1)) ∧ D = ju (ju C (xe 2 x) 1 (-1)) (xe 2 x) 2 0))) (q : (((x < 0 ∨ 23 < x) ∧ r2 = -3 ∧ S = R) ∨ ((0 ≤ x ∧ x ≤ 23) ∧ ((R 600 x = -1 ∧ r2 = 0) ∨ (R 600 x ≠ -1 ∧ r2 = 1)) ∧ S = ju (ju R 600 x (-1)) 602 x 0))) (hf : ∀ (a : Nat) (i : Int), a ≠ 600 → a ≠ 602 → S a i = R a i) (hk : ∀ (i : Int), i ≠ 1 → S 598 i = R 598 i) : RDA D S ∧ r = r2 := by
  rcases p with ⟨p0, p1, p2⟩ | ⟨p0, p1, p2⟩ <;> rcases q with ⟨q0, q1, q2⟩ | ⟨q0, q1, q2⟩
  · rw [p2, q2]
    exact ⟨h, by omega⟩
  · omega
  · omega
  · have hN := (h.2.1 x (by omega) (by omega)).1
    rw [hN] at p1
    refine ⟨⟨((h.1.f f rfl).r (fun i => hf 599 i (by decide) (by decide)) (hf 598 1 (by decide) (by decide))), ?_, ((h.2.2.1.f f rfl).r (fun i _ _ => (hf 598 i (by decide) (by decide)))), ((h.2.2.2.1.f f rfl).r (fun i => hf 622 i (by decide) (by decide)) (hf 598 34 (by decide) (by decide))), ((h.2.2.2.2.1.f f rfl).r (fun a i _ _ => hf a i (by omega) (by omega))), ((h.2.2.2.2.2.1.f f rfl).r (fun a i _ _ => hf a i (by omega) (by omega))), ((h.2.2.2.2.2.2.f f rfl).r hG hI (fun a i _ _ => hf a i (by omega) (by omega)))⟩, by omega⟩
    intro b b0 b1
    have zb := xpk_z (p := b) ⟨b0, b1⟩
    have s1 : S 600 b = ju R 600 x (-1) 600 b := by rw [q2]; exact ju_c _ _ (by decide)
    have s2 : ∀ i : Int, S 601 i = R 601 i := fun i => by rw [q2]; exact (ju_c _ _ (by decide)).trans (ju_c _ _ (by decide))
    have d1 : D (xe 2 b) 1 = ju C (xe 2 x) 1 (-1) (xe 2 b) 1 := by rw [p2]; exact ju_i _ _ (by decide)
    have d2 : ∀ i : Int, D (xe 2 b + 1) i = C (xe 2 b + 1) i := fun i => by
      have zx := xpk_z (p := x) ⟨by omega, by omega⟩
      have n : xe 2 b + 1 ≠ xe 2 x := by
        by_cases e : b = x
        · subst e; omega
        · exact (xpk_ne (p := b) (x := x) ⟨b0, b1⟩ (by omega) e).2.2.1
      rw [p2, ju_c _ _ n, ju_c _ _ n]
    refine ⟨?_, fun i i0 i1 => ?_⟩
    · rw [s1, d1]
      by_cases e : b = x
      · subst e
        rw [ju_same, ju_same]
      · have n := xpk_ne (p := b) (x := x) ⟨b0, b1⟩ (by omega) e
        rw [ju_c _ _ n.1, ju_i _ _ e]
        exact (h.2.1 b b0 b1).1
    · rw [s2, d2]
      exact (h.2.1 b b0 b1).2 i i0 i1
theorem op_set {C D R S : jm} {r r2 : Int} (h : RDA C R) (hG : RG1 R) (hI : RI R) {x y z : Int} (f : FR W_c_PacketWall_set_x C D) (p : (((x < 0 ∨ 23 < x ∨ C (xe 2 x) 1 = -1) ∧ r = -2 ∧ D = C) ∨ ((0 ≤ x ∧ x ≤ 23) ∧ C (xe 2 x) 1 ≠ -1 ∧ (y < 0 ∨ C (xe 2 x) 1 ≤ y ∨ z < 0 ∨ 255 < z) ∧ r = -3 ∧ D = C) ∨ ((0 ≤ x ∧ x ≤ 23) ∧ C (xe 2 x) 1 ≠ -1 ∧ (0 ≤ y ∧ y < C (xe 2 x) 1) ∧ (0 ≤ z ∧ z ≤ 255) ∧ r = C ((xe 2 x) + 1) y ∧ D = ju C ((xe 2 x) + 1) y z))) (q : (((x < 0 ∨ 23 < x ∨ R 600 x = -1) ∧ r2 = -2 ∧ S = R) ∨ ((0 ≤ x ∧ x ≤ 23) ∧ R 600 x ≠ -1 ∧ (y < 0 ∨ R 600 x ≤ y ∨ z < 0 ∨ 255 < z) ∧ r2 = -3 ∧ S = R) ∨ ((0 ≤ x ∧ x ≤ 23) ∧ R 600 x ≠ -1 ∧ (0 ≤ y ∧ y < R 600 x) ∧ (0 ≤ z ∧ z ≤ 255) ∧ r2 = R 601 (400 * x + y) ∧ S = ju R 601 (400 * x + y) z))) (hf : ∀ (a : Nat) (i : Int), a ≠ 601 → S a i = R a i) (hk : ∀ (i : Int), i ≠ 1 → S 598 i = R 598 i) : RDA D S ∧ r = r2 := by
  by_cases hx : 0 ≤ x ∧ x ≤ 23
  · have hN := (h.2.1 x (by omega) (by omega)).1
    have b : R 600 x ≤ 400 := by have q := hI 600 x (by decide); rw [xri_row rfl rfl] at q; exact q.2
    rw [hN] at p
    rcases p with ⟨p0, p1, p2⟩ | ⟨p0, p1, p2, p3, p4⟩ | ⟨p0, p1, p2, p3, p4, p5⟩ <;> rcases q with ⟨q0, q1, q2⟩ | ⟨q0, q1, q2, q3, q4⟩ | ⟨q0, q1, q2, q3, q4, q5⟩
    · rw [p2, q2]
      exact ⟨h, by omega⟩
    · exact absurd p0 (by omega)
    · exact absurd p0 (by omega)
    · exact absurd q0 (by omega)
    · rw [p4, q4]
      exact ⟨h, by omega⟩
    · exact absurd p2 (by omega)
    · exact absurd q0 (by omega)
    · exact absurd q2 (by omega)
    · have hb := (h.2.1 x (by omega) (by omega)).2 y (by omega) (by omega)
      refine ⟨⟨((h.1.f f rfl).r (fun i => hf 599 i (by decide)) (hf 598 1 (by decide))), ?_, ((h.2.2.1.f f rfl).r (fun i _ _ => (hf 598 i (by decide)))), ((h.2.2.2.1.f f rfl).r (fun i => hf 622 i (by decide)) (hf 598 34 (by decide))), ((h.2.2.2.2.1.f f rfl).r (fun a i _ _ => hf a i (by omega))), ((h.2.2.2.2.2.1.f f rfl).r (fun a i _ _ => hf a i (by omega))), ((h.2.2.2.2.2.2.f f rfl).r hG hI (fun a i _ _ => hf a i (by omega)))⟩, by omega⟩
      intro c c0 c1
      have zb := xpk_z (p := c) ⟨c0, c1⟩
      refine ⟨?_, fun i i0 i1 => ?_⟩
      · have s1 : S 600 c = R 600 c := by rw [q5]; exact ju_c _ _ (by decide)
        have d1 : D (xe 2 c) 1 = C (xe 2 c) 1 := by
          rw [p5]
          refine ju_c _ _ ?_
          by_cases e : c = x
          · subst e; omega
          · exact (xpk_ne (p := c) (x := x) ⟨c0, c1⟩ (by omega) e).2.1
        rw [s1, d1]
        exact (h.2.1 c c0 c1).1
      · rw [p5, q5]
        by_cases e : c = x
        · subst e
          by_cases e2 : i = y
          · subst e2
            rw [ju_same, ju_same]
          · rw [ju_i _ _ e2, ju_i _ _ (by omega)]
            exact (h.2.1 c c0 c1).2 i i0 i1
        · have n := xpk_ne (p := c) (x := x) ⟨c0, c1⟩ (by omega) e
          rw [ju_c _ _ (by omega), ju_i _ _ (by omega)]
          exact (h.2.1 c c0 c1).2 i i0 i1
  · rcases p with ⟨p0, p1, p2⟩ | ⟨p0, -⟩ | ⟨p0, -⟩
    · rcases q with ⟨q0, q1, q2⟩ | ⟨q0, -⟩ | ⟨q0, -⟩
      · rw [p2, q2]
        exact ⟨h, by omega⟩
      · exact absurd q0 hx
      · exact absurd q0 hx
    · exact absurd p0 hx
    · exact absurd p0 hx
theorem op_repair {C D R S : jm} {r r2 : Int} (h : RDA C R) (hG : RG1 R) (hI : RI R) {x : Int} (f : FR W_c_PacketWall_repair_x C D) (p : (((x < 0 ∨ 23 < x ∨ C (xe 2 x) 1 = -1) ∧ r = -2 ∧ OP C D 0) ∨ (((0 ≤ x ∧ x ≤ 23) ∧ C (xe 2 x) 1 ≠ -1) ∧ OP C D ((xe 2 x) + 1) ∧ ∃ C_ : Int, HE (rf R x) (C (xe 2 x) 1) C_ ∧ r = rpN (rf R x) (C (xe 2 x) 1) C_ C_.toNat (rf R x) ∧ BY8 D ((xe 2 x) + 1) (rpF (rf R x) (C (xe 2 x) 1) C_ C_.toNat (rf R x))))) (q : (((x < 0 ∨ 23 < x ∨ R 600 x = -1) ∧ r2 = -2 ∧ S = R) ∨ (((0 ≤ x ∧ x ≤ 23) ∧ R 600 x ≠ -1) ∧ (∃ C_ : Int, HE (rf R x) (R 600 x) C_ ∧ r2 = rpN (rf R x) (R 600 x) C_ C_.toNat (rf R x) ∧ rf S x = rpF (rf R x) (R 600 x) C_ C_.toNat (rf R x)) ∧ OX R S x))) (hf : ∀ (a : Nat) (i : Int), a ≠ 598 → a ≠ 601 → a ≠ 603 → a ≠ 604 → a ≠ 605 → S a i = R a i) (hk : ∀ (i : Int), i ≠ 6 → i ≠ 10 → i ≠ 11 → i ≠ 12 → S 598 i = R 598 i) : RDA D S ∧ r = r2 := by
  have d1 : ∀ b : Int, 0 ≤ b → b < 24 → D (xe 2 b) 1 = S 600 b := fun b b0 b1 => by
    rw [f.g (kP b0 b1).1 rfl, hf 600 b (by decide) (by decide) (by decide) (by decide) (by decide)]
    exact (h.2.1 b b0 b1).1
  have same : (x < 0 ∨ 23 < x ∨ R 600 x = -1) → OP C D 0 → S = R → RDp D S := fun _ hp hs b b0 b1 => by
    refine ⟨d1 b b0 b1, fun i i0 i1 => ?_⟩
    have zb := xpk_z (p := b) ⟨b0, b1⟩
    rw [hp _ i zb.2.1 (kP b0 b1).2, hs]
    exact (h.2.1 b b0 b1).2 i i0 i1
  by_cases hx : 0 ≤ x ∧ x ≤ 23
  · have hN := (h.2.1 x (by omega) (by omega)).1
    rw [hN] at p
    rcases p with ⟨p0, p1, p2⟩ | ⟨p0, p1, c1, p2, p3, p4⟩ <;> rcases q with ⟨q0, q1, q2⟩ | ⟨q0, ⟨c2, q1, q2, q3⟩, q4⟩
    · exact ⟨⟨((h.1.f f rfl).r (fun i => hf 599 i (by decide) (by decide) (by decide) (by decide) (by decide)) (hk 1 (by decide) (by decide) (by decide) (by decide))), (same q0 p2 q2), ((h.2.2.1.f f rfl).r (fun i _ _ => (hk i (by omega) (by omega) (by omega) (by omega)))), ((h.2.2.2.1.f f rfl).r (fun i => hf 622 i (by decide) (by decide) (by decide) (by decide) (by decide)) (hk 34 (by decide) (by decide) (by decide) (by decide))), ((h.2.2.2.2.1.f f rfl).r (fun a i _ _ => hf a i (by omega) (by omega) (by omega) (by omega) (by omega))), ((h.2.2.2.2.2.1.f f rfl).r (fun a i _ _ => hf a i (by omega) (by omega) (by omega) (by omega) (by omega))), ((h.2.2.2.2.2.2.f f rfl).r hG hI (fun a i _ _ => hf a i (by omega) (by omega) (by omega) (by omega) (by omega)))⟩, by omega⟩
    · exact absurd p0 (by omega)
    · exact absurd q0 (by omega)
    · have e := HE.u p2 q1
      subst e
      refine ⟨⟨((h.1.f f rfl).r (fun i => hf 599 i (by decide) (by decide) (by decide) (by decide) (by decide)) (hk 1 (by decide) (by decide) (by decide) (by decide))), ?_, ((h.2.2.1.f f rfl).r (fun i _ _ => (hk i (by omega) (by omega) (by omega) (by omega)))), ((h.2.2.2.1.f f rfl).r (fun i => hf 622 i (by decide) (by decide) (by decide) (by decide) (by decide)) (hk 34 (by decide) (by decide) (by decide) (by decide))), ((h.2.2.2.2.1.f f rfl).r (fun a i _ _ => hf a i (by omega) (by omega) (by omega) (by omega) (by omega))), ((h.2.2.2.2.2.1.f f rfl).r (fun a i _ _ => hf a i (by omega) (by omega) (by omega) (by omega) (by omega))), ((h.2.2.2.2.2.2.f f rfl).r hG hI (fun a i _ _ => hf a i (by omega) (by omega) (by omega) (by omega) (by omega)))⟩, by rw [p3, q2]⟩
      exact rdp_bytes h.2.1 (x := x) (by omega) d1 (fun i i0 i1 => (p4 i i0 i1).1) (fun i _ _ => congrFun q3 i) (fun _ _ _ => rfl) (fun b b0 b1 e i => p1 _ i (xpk_ne (p := b) (x := x) ⟨b0, b1⟩ (by omega) e).2.2.2 (kP b0 b1).2) q4
  · rcases p with ⟨p0, p1, p2⟩ | ⟨p0, -⟩
    · rcases q with ⟨q0, q1, q2⟩ | ⟨q0, -⟩
      · exact ⟨⟨((h.1.f f rfl).r (fun i => hf 599 i (by decide) (by decide) (by decide) (by decide) (by decide)) (hk 1 (by decide) (by decide) (by decide) (by decide))), (same q0 p2 q2), ((h.2.2.1.f f rfl).r (fun i _ _ => (hk i (by omega) (by omega) (by omega) (by omega)))), ((h.2.2.2.1.f f rfl).r (fun i => hf 622 i (by decide) (by decide) (by decide) (by decide) (by decide)) (hk 34 (by decide) (by decide) (by decide) (by decide))), ((h.2.2.2.2.1.f f rfl).r (fun a i _ _ => hf a i (by omega) (by omega) (by omega) (by omega) (by omega))), ((h.2.2.2.2.2.1.f f rfl).r (fun a i _ _ => hf a i (by omega) (by omega) (by omega) (by omega) (by omega))), ((h.2.2.2.2.2.2.f f rfl).r hG hI (fun a i _ _ => hf a i (by omega) (by omega) (by omega) (by omega) (by omega)))⟩, by omega⟩
      · exact absurd q0.1 hx
    · exact absurd p0.1 hx
end
