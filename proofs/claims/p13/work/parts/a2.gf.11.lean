section
theorem op_close {C D R S : jm} {r r2 : Int} (h : RDA C R) (hG : RG1 R) (hI : RI R) {x : Int} (f : FR W_c_PacketWall_close_x C D) (p : (((x < 0 ∨ 23 < x ∨ C (xe (C 15 0).toNat x) 0 = 0) ∧ r = -2 ∧ D = C) ∨ (((0 ≤ x ∧ x ≤ 23) ∧ C (xe (C 15 0).toNat x) 0 ≠ 0) ∧ r = 1 ∧ D = ju C (xe (C 15 0).toNat x) 0 0))) (q : (((x < 0 ∨ 23 < x ∨ R 627 x = 0) ∧ r2 = -2 ∧ S = R) ∨ (((0 ≤ x ∧ x ≤ 23) ∧ R 627 x ≠ 0) ∧ r2 = 1 ∧ S = ju R 627 x 0))) (hf : ∀ (a : Nat) (i : Int), a ≠ 627 → S a i = R a i) : RDA D S ∧ r = r2 := by
  by_cases hx : 0 ≤ x ∧ x ≤ 23
  · have w := h.2.2.2.2.2.1.2 x (by omega) (by omega)
    rw [w.1] at p
    rcases p with ⟨p0, p1, p2⟩ | ⟨p0, p1, p2⟩ <;> rcases q with ⟨q0, q1, q2⟩ | ⟨q0, q1, q2⟩
    · rw [p2, q2]
      exact ⟨h, by omega⟩
    · exact absurd p0 (by omega)
    · exact absurd q0 (by omega)
    · have a := xfl (V := C 15 0) h.2.2.2.2.2.1.1.1 (i := x) (by omega)
      refine ⟨⟨((h.1.f f rfl).r (fun i => hf 599 i (by decide)) (hf 598 1 (by decide))), ((h.2.1.f f rfl).r (fun a i _ _ => hf a i (by omega))), ((h.2.2.1.f f rfl).r (fun i _ _ => (hf 598 i (by decide)))), ((h.2.2.2.1.f f rfl).r (fun i => hf 622 i (by decide)) (hf 598 34 (by decide))), ((h.2.2.2.2.1.f f rfl).r (fun a i _ _ => hf a i (by omega))), ?_, ((h.2.2.2.2.2.2.f f rfl).r hG hI (fun a i _ _ => hf a i (by omega)))⟩, by omega⟩
      refine RDw.one h.2.2.2.2.2.1 (x := x) (by omega) (by rw [p2]; exact ju_c _ _ (by omega)) (by rw [p2]; exact ju_c _ _ (by omega)) (fun b k _ _ hb => by rw [p2]; exact ju_c _ _ (by omega)) ⟨fun b j hj _ => by rw [q2]; exact ju_i _ _ hj, fun b j _ hb => by rw [q2]; exact ju_c _ _ (by omega)⟩ ⟨by rw [p2, q2, ju_same, ju_same], fun u => ?_⟩
      rw [q2, ju_same] at u
      exact absurd rfl u
  · rcases p with ⟨p0, p1, p2⟩ | ⟨p0, -⟩
    · rcases q with ⟨q0, q1, q2⟩ | ⟨q0, -⟩
      · rw [p2, q2]
        exact ⟨h, by omega⟩
      · exact absurd q0.1 hx
    · exact absurd p0.1 hx
theorem op_pool {C D R S : jm} {r r2 : Int} (h : RDA C R) (hG : RG1 R) (hI : RI R) {x y z u : Int} (f : FR W_c_PacketWall_pool_x C D) (p : ((¬ ((0 ≤ x ∧ x ≤ 3) ∧ (1 ≤ u ∧ u ≤ 32) ∧ (1 ≤ z ∧ z + u ≤ 65536)) ∧ r = -3 ∧ D = C) ∨ (((0 ≤ x ∧ x ≤ 3) ∧ (1 ≤ u ∧ u ≤ 32) ∧ (1 ≤ z ∧ z + u ≤ 65536)) ∧ pu C (C 15 0).toNat x 24 0 = 1 ∧ r = -4 ∧ D = C) ∨ (((0 ≤ x ∧ x ≤ 3) ∧ (1 ≤ u ∧ u ≤ 32) ∧ (1 ≤ z ∧ z + u ≤ 65536)) ∧ pu C (C 15 0).toNat x 24 0 ≠ 1 ∧ r = u ∧ D = ju (ju (ju C 26 x (y % 4294967296)) 27 x z) 28 x u))) (q : ((¬ ((0 ≤ x ∧ x ≤ 3) ∧ (1 ≤ u ∧ u ≤ 32) ∧ (1 ≤ z ∧ z + u ≤ 65536)) ∧ r2 = -3 ∧ S = R) ∨ (((0 ≤ x ∧ x ≤ 3) ∧ (1 ≤ u ∧ u ≤ 32) ∧ (1 ≤ z ∧ z + u ≤ 65536)) ∧ pu6 R x 24 0 = 1 ∧ r2 = -4 ∧ S = R) ∨ (((0 ≤ x ∧ x ≤ 3) ∧ (1 ≤ u ∧ u ≤ 32) ∧ (1 ≤ z ∧ z + u ≤ 65536)) ∧ pu6 R x 24 0 ≠ 1 ∧ r2 = u ∧ S = ju (ju (ju (ju R 643 x 1) 644 x (y % 4294967296)) 645 x z) 646 x u))) (hf : ∀ (a : Nat) (i : Int), a ≠ 643 → a ≠ 644 → a ≠ 645 → a ≠ 646 → S a i = R a i) : RDA D S ∧ r = r2 := by
  rw [pu_eq h.2.2.2.2.2.1 x 24 0 (by decide) (by decide)] at p
  rcases p with ⟨p0, p1, p2⟩ | ⟨p0, p1, p2, p3⟩ | ⟨p0, p1, p2, p3⟩ <;> rcases q with ⟨q0, q1, q2⟩ | ⟨q0, q1, q2, q3⟩ | ⟨q0, q1, q2, q3⟩
  · rw [p2, q2]
    exact ⟨h, by omega⟩
  · exact absurd q0 p0
  · exact absurd q0 p0
  · exact absurd p0 q0
  · rw [p3, q3]
    exact ⟨h, by omega⟩
  · exact absurd p1 q1
  · exact absurd p0 q0
  · exact absurd q1 p1
  · refine ⟨⟨((h.1.f f rfl).r (fun i => hf 599 i (by decide) (by decide) (by decide) (by decide)) (hf 598 1 (by decide) (by decide) (by decide) (by decide))), ((h.2.1.f f rfl).r (fun a i _ _ => hf a i (by omega) (by omega) (by omega) (by omega))), ((h.2.2.1.f f rfl).r (fun i _ _ => (hf 598 i (by decide) (by decide) (by decide) (by decide)))), ((h.2.2.2.1.f f rfl).r (fun i => hf 622 i (by decide) (by decide) (by decide) (by decide)) (hf 598 34 (by decide) (by decide) (by decide) (by decide))), ?_, ((h.2.2.2.2.2.1.f f rfl).r (fun a i _ _ => hf a i (by omega) (by omega) (by omega) (by omega))), ((h.2.2.2.2.2.2.f f rfl).r hG hI (fun a i _ _ => hf a i (by omega) (by omega) (by omega) (by omega)))⟩, by omega⟩
    have d6 : ∀ k : Int, D 26 k = ju C 26 x (y % 4294967296) 26 k := fun k => by rw [p3]; exact (ju_c _ _ (by decide)).trans (ju_c _ _ (by decide))
    have d7 : ∀ k : Int, D 27 k = ju C 27 x z 27 k := fun k => by
      rw [p3, ju_c _ _ (by decide)]
      by_cases e : k = x
      · subst e; rw [ju_same, ju_same]
      · simp only [ju_i _ _ e]
    have d8 : ∀ k : Int, D 28 k = ju C 28 x u 28 k := fun k => by
      rw [p3]
      by_cases e : k = x
      · subst e; rw [ju_same, ju_same]
      · simp only [ju_i _ _ e]
    refine ⟨fun k => ?_, fun k k0 k1 => ?_⟩
    · rw [d7]
      by_cases e : k = x
      · subst e; rw [ju_same]; omega
      · rw [ju_i _ _ e]; exact h.2.2.2.2.1.1 k
    · by_cases e : k = x
      · subst e
        have s3 : S 643 k = 1 := by rw [q3, ju_c _ _ (by decide), ju_c _ _ (by decide), ju_c _ _ (by decide), ju_same]
        refine ⟨fun v => ?_, fun _ => ?_⟩
        · rw [s3] at v
          exact absurd v (by decide)
        · rw [d6, d7, d8, ju_same, ju_same, ju_same, q3]
          refine ⟨?_, ?_, ?_, by omega⟩
          · rw [ju_c _ _ (by decide), ju_c _ _ (by decide), ju_same]
          · rw [ju_c _ _ (by decide), ju_same]
          · rw [ju_same]
      · have s : ∀ a : Nat, S a k = R a k := fun a => by rw [q3, ju_i _ _ e, ju_i _ _ e, ju_i _ _ e, ju_i _ _ e]
        rw [d6, d7, d8, ju_i _ _ e, ju_i _ _ e, ju_i _ _ e, s, s, s, s]
        exact h.2.2.2.2.1.2 k k0 k1
end
