section
theorem op_field {C D R S : jm} {r r2 : Int} (h : RDA C R) (hG : RG1 R) (hI : RI R) {x y z : Int} (f : FR W_c_PacketWall_field_x C D) (p : (((x < 0 ∨ 23 < x ∨ C (xe 2 x) 1 = -1) ∧ r = -2) ∨ (((0 ≤ x ∧ x ≤ 23) ∧ C (xe 2 x) 1 ≠ -1) ∧ ∃ C_ : Int, HE (rf R x) (C (xe 2 x) 1) C_ ∧ r = vA (rf R x) (C (xe 2 x) 1) C_ y z))) (q : (((x < 0 ∨ 23 < x ∨ R 600 x = -1) ∧ r2 = -2) ∨ (((0 ≤ x ∧ x ≤ 23) ∧ R 600 x ≠ -1) ∧ ∃ C_ : Int, HE (rf R x) (R 600 x) C_ ∧ r2 = vA (rf R x) (R 600 x) C_ y z))) (hf : ∀ (a : Nat) (i : Int), a ≠ 598 → a ≠ 603 → a ≠ 604 → a ≠ 605 → S a i = R a i) (hk : ∀ (i : Int), i ≠ 6 → i ≠ 10 → i ≠ 11 → i ≠ 12 → S 598 i = R 598 i) : RDA D S ∧ r = r2 := by
  refine ⟨⟨((h.1.f f rfl).r (fun i => hf 599 i (by decide) (by decide) (by decide) (by decide)) (hk 1 (by decide) (by decide) (by decide) (by decide))), ((h.2.1.f f rfl).r (fun a i _ _ => hf a i (by omega) (by omega) (by omega) (by omega))), ((h.2.2.1.f f rfl).r (fun i _ _ => (hk i (by omega) (by omega) (by omega) (by omega)))), ((h.2.2.2.1.f f rfl).r (fun i => hf 622 i (by decide) (by decide) (by decide) (by decide)) (hk 34 (by decide) (by decide) (by decide) (by decide))), ((h.2.2.2.2.1.f f rfl).r (fun a i _ _ => hf a i (by omega) (by omega) (by omega) (by omega))), ((h.2.2.2.2.2.1.f f rfl).r (fun a i _ _ => hf a i (by omega) (by omega) (by omega) (by omega))), ((h.2.2.2.2.2.2.f f rfl).r hG hI (fun a i _ _ => hf a i (by omega) (by omega) (by omega) (by omega)))⟩, ?_⟩
  by_cases hx : 0 ≤ x ∧ x ≤ 23
  · have hN := (h.2.1 x (by omega) (by omega)).1
    rw [hN] at p
    rcases p with p | ⟨p0, c1, p1, p2⟩ <;> rcases q with q | ⟨q0, c2, q1, q2⟩
    · omega
    · exact absurd p.1 (by omega)
    · exact absurd q.1 (by omega)
    · have e := HE.u p1 q1
      subst e
      rw [p2, q2]
  · rcases p with p | p <;> rcases q with q | q
    · omega
    · exact absurd q.1.1 hx
    · exact absurd p.1.1 hx
    · exact absurd p.1.1 hx
theorem op_sum {C D R S : jm} {r r2 : Int} (h : RDA C R) (hG : RG1 R) (hI : RI R) {x y z : Int} (f : FR W_c_PacketWall_sum_x C D) (p : (((x < 0 ∨ 23 < x ∨ C (xe 2 x) 1 = -1) ∧ r = -2) ∨ (((0 ≤ x ∧ x ≤ 23) ∧ C (xe 2 x) 1 ≠ -1) ∧ ∃ C_ : Int, HE (rf R x) (C (xe 2 x) 1) C_ ∧ r = dS (rf R x) (rf R x) (C (xe 2 x) 1) C_ y))) (q : (((x < 0 ∨ 23 < x ∨ R 600 x = -1) ∧ r2 = -2) ∨ (((0 ≤ x ∧ x ≤ 23) ∧ R 600 x ≠ -1) ∧ ∃ C_ : Int, HE (rf R x) (R 600 x) C_ ∧ r2 = dS (rf R x) (rf R x) (R 600 x) C_ y))) (hf : ∀ (a : Nat) (i : Int), a ≠ 598 → a ≠ 603 → a ≠ 604 → a ≠ 605 → S a i = R a i) (hk : ∀ (i : Int), i ≠ 6 → i ≠ 10 → i ≠ 11 → i ≠ 12 → S 598 i = R 598 i) : RDA D S ∧ r = r2 := by
  refine ⟨⟨((h.1.f f rfl).r (fun i => hf 599 i (by decide) (by decide) (by decide) (by decide)) (hk 1 (by decide) (by decide) (by decide) (by decide))), ((h.2.1.f f rfl).r (fun a i _ _ => hf a i (by omega) (by omega) (by omega) (by omega))), ((h.2.2.1.f f rfl).r (fun i _ _ => (hk i (by omega) (by omega) (by omega) (by omega)))), ((h.2.2.2.1.f f rfl).r (fun i => hf 622 i (by decide) (by decide) (by decide) (by decide)) (hk 34 (by decide) (by decide) (by decide) (by decide))), ((h.2.2.2.2.1.f f rfl).r (fun a i _ _ => hf a i (by omega) (by omega) (by omega) (by omega))), ((h.2.2.2.2.2.1.f f rfl).r (fun a i _ _ => hf a i (by omega) (by omega) (by omega) (by omega))), ((h.2.2.2.2.2.2.f f rfl).r hG hI (fun a i _ _ => hf a i (by omega) (by omega) (by omega) (by omega)))⟩, ?_⟩
  by_cases hx : 0 ≤ x ∧ x ≤ 23
  · have hN := (h.2.1 x (by omega) (by omega)).1
    rw [hN] at p
    rcases p with p | ⟨p0, c1, p1, p2⟩ <;> rcases q with q | ⟨q0, c2, q1, q2⟩
    · omega
    · exact absurd p.1 (by omega)
    · exact absurd q.1 (by omega)
    · have e := HE.u p1 q1
      subst e
      rw [p2, q2]
  · rcases p with p | p <;> rcases q with q | q
    · omega
    · exact absurd q.1.1 hx
    · exact absurd p.1.1 hx
    · exact absurd p.1.1 hx
theorem op_carried {C D R S : jm} {r r2 : Int} (h : RDA C R) (hG : RG1 R) (hI : RI R) {x y z : Int} (f : FR W_c_PacketWall_carried_x C D) (p : (((x < 0 ∨ 23 < x ∨ C (xe 2 x) 1 = -1) ∧ r = -2) ∨ (((0 ≤ x ∧ x ≤ 23) ∧ C (xe 2 x) 1 ≠ -1) ∧ ∃ C_ : Int, HE (rf R x) (C (xe 2 x) 1) C_ ∧ (((y < 0 ∨ z < 0 ∨ C_ < y + z) ∧ r = -3) ∨ ((0 ≤ y ∧ 0 ≤ z ∧ y + z ≤ C_) ∧ r = crr (rf R x) (C (xe 2 x) 1) z.toNat y))))) (q : (((x < 0 ∨ 23 < x ∨ R 600 x = -1) ∧ r2 = -2) ∨ (((0 ≤ x ∧ x ≤ 23) ∧ R 600 x ≠ -1) ∧ ∃ C_ : Int, HE (rf R x) (R 600 x) C_ ∧ (((y < 0 ∨ z < 0 ∨ C_ < y + z) ∧ r2 = -3) ∨ ((0 ≤ y ∧ 0 ≤ z ∧ y + z ≤ C_) ∧ r2 = crr (rf R x) (R 600 x) z.toNat y))))) (hf : ∀ (a : Nat) (i : Int), a ≠ 598 → a ≠ 603 → a ≠ 604 → a ≠ 605 → S a i = R a i) (hk : ∀ (i : Int), i ≠ 6 → i ≠ 10 → i ≠ 11 → i ≠ 12 → S 598 i = R 598 i) : RDA D S ∧ r = r2 := by
  refine ⟨⟨((h.1.f f rfl).r (fun i => hf 599 i (by decide) (by decide) (by decide) (by decide)) (hk 1 (by decide) (by decide) (by decide) (by decide))), ((h.2.1.f f rfl).r (fun a i _ _ => hf a i (by omega) (by omega) (by omega) (by omega))), ((h.2.2.1.f f rfl).r (fun i _ _ => (hk i (by omega) (by omega) (by omega) (by omega)))), ((h.2.2.2.1.f f rfl).r (fun i => hf 622 i (by decide) (by decide) (by decide) (by decide)) (hk 34 (by decide) (by decide) (by decide) (by decide))), ((h.2.2.2.2.1.f f rfl).r (fun a i _ _ => hf a i (by omega) (by omega) (by omega) (by omega))), ((h.2.2.2.2.2.1.f f rfl).r (fun a i _ _ => hf a i (by omega) (by omega) (by omega) (by omega))), ((h.2.2.2.2.2.2.f f rfl).r hG hI (fun a i _ _ => hf a i (by omega) (by omega) (by omega) (by omega)))⟩, ?_⟩
  by_cases hx : 0 ≤ x ∧ x ≤ 23
  · have hN := (h.2.1 x (by omega) (by omega)).1
    rw [hN] at p
    rcases p with p | ⟨p0, c1, p1, p2⟩ <;> rcases q with q | ⟨q0, c2, q1, q2⟩
    · omega
    · exact absurd p.1 (by omega)
    · exact absurd q.1 (by omega)
    · have e := HE.u p1 q1
      subst e
      omega
  · rcases p with p | p <;> rcases q with q | q
    · omega
    · exact absurd q.1.1 hx
    · exact absurd p.1.1 hx
    · exact absurd p.1.1 hx
theorem op_at {C R : jm} {r r2 x y : Int} (h : RDA C R) (hI : RI R) (p : (((x < 0 ∨ 23 < x ∨ C (xe 2 x) 1 = -1) ∧ r = -2) ∨ ((0 ≤ x ∧ x ≤ 23) ∧ C (xe 2 x) 1 ≠ -1 ∧ ((y = -1 ∧ r = C (xe 2 x) 1) ∨ (y ≠ -1 ∧ (0 ≤ y ∧ y < C (xe 2 x) 1) ∧ r = C ((xe 2 x) + 1) y) ∨ (y ≠ -1 ∧ (y < 0 ∨ C (xe 2 x) 1 ≤ y) ∧ r = -1))))) (q : (((x < 0 ∨ 23 < x ∨ R 600 x = -1) ∧ r2 = -2) ∨ ((0 ≤ x ∧ x ≤ 23) ∧ R 600 x ≠ -1 ∧ ((y = -1 ∧ r2 = R 600 x) ∨ (y ≠ -1 ∧ (0 ≤ y ∧ y < R 600 x) ∧ r2 = R 601 (400 * x + y)) ∨ (y ≠ -1 ∧ (y < 0 ∨ R 600 x ≤ y) ∧ r2 = -1))))) : r = r2 := by
  by_cases hx : 0 ≤ x ∧ x ≤ 23
  · have hN := (h.2.1 x (by omega) (by omega)).1
    have hB := (h.2.1 x (by omega) (by omega)).2 y
    have b : R 600 x ≤ 400 := by have q := hI 600 x (by decide); rw [xri_row rfl rfl] at q; exact q.2
    rw [hN] at p
    by_cases hy : 0 ≤ y ∧ y < 400
    · rw [hB hy.1 hy.2] at p
      omega
    · omega
  · omega
theorem op_digest {C R S : jm} {r r2 x : Int} (h : RDA C R) (hI : RI R) (p : (((x < 0 ∨ 23 < x ∨ C (xe 2 x) 1 = -1) ∧ r = 0) ∨ ((0 ≤ x ∧ x ≤ 23) ∧ C (xe 2 x) 1 ≠ -1 ∧ r = dg (fun k => C ((xe 2 x) + 1) k) (C (xe 2 x) 1).toNat))) (q : (((x < 0 ∨ 23 < x ∨ S 600 x = -1) ∧ r2 = 0) ∨ ((0 ≤ x ∧ x ≤ 23) ∧ S 600 x ≠ -1 ∧ r2 = dg (fun j => S 601 (400 * x + j)) (S 600 x).toNat))) (e : ∀ (a : Nat) (i : Int), a ≠ 603 → S a i = R a i) : r = r2 := by
  have e0 : S 600 x = R 600 x := e 600 x (by decide)
  have e1 : (fun j => S 601 (400 * x + j)) = rf R x := funext (fun j => e 601 _ (by decide))
  rw [e0, e1] at q
  by_cases hx : 0 ≤ x ∧ x ≤ 23
  · have hN := (h.2.1 x (by omega) (by omega)).1
    have b : R 600 x ≤ 400 := by have q := hI 600 x (by decide); rw [xri_row rfl rfl] at q; exact q.2
    have d : ∀ n : Nat, (n : Int) ≤ 400 → dg (fun k => C ((xe 2 x) + 1) k) n = dg (rf R x) n := by
      intro n
      induction n with
      | zero => intro _; rfl
      | succ n ih =>
        intro hn
        show jl_w (jl_xor (dg _ n) (C ((xe 2 x) + 1) n) * _) = jl_w (jl_xor (dg _ n) (rf R x n) * _)
        rw [ih (by omega), (h.2.1 x (by omega) (by omega)).2 n (by omega) (by omega)]
        rfl
    rw [hN] at p
    by_cases hm : R 600 x = -1
    · omega
    · have nb : -1 ≤ R 600 x := by have q := hI 600 x (by decide); rw [xri_row rfl rfl] at q; exact q.1
      rw [d (R 600 x).toNat (by omega)] at p
      omega
  · omega
theorem op_finding {C R : jm} {r r2 x : Int} (h : RDA C R) (p : (((0 ≤ x ∧ x < 4) ∧ r = C 9 x) ∨ ((x < 0 ∨ 4 ≤ x) ∧ r = -3))) (q : ((x = 0 ∧ ((R 598 13 = -1 ∧ r2 = 0) ∨ (R 598 13 ≠ -1 ∧ r2 = R 598 13))) ∨ (x = 1 ∧ r2 = R 598 14) ∨ (x = 2 ∧ r2 = R 598 15) ∨ (x = 3 ∧ r2 = R 598 16) ∨ ((x < 0 ∨ 3 < x) ∧ r2 = -3))) : r = r2 := by
  obtain ⟨h0, h1, h2, h3⟩ := h.2.2.1
  by_cases hx : 0 ≤ x ∧ x < 4
  · rcases (show x = 0 ∨ x = 1 ∨ x = 2 ∨ x = 3 by omega) with rfl | rfl | rfl | rfl
    · split at h0 <;> omega
    · omega
    · omega
    · omega
  · omega
theorem op_gathered {C R : jm} {r r2 x : Int} (h : RDA C R) (p : (((0 ≤ x ∧ x < 5) ∧ r = C 14 x) ∨ ((x < 0 ∨ 5 ≤ x) ∧ r = -3))) (q : (((0 ≤ x ∧ x ≤ 4) ∧ ((R 598 34 = 0 ∧ r2 = -1) ∨ (R 598 34 ≠ 0 ∧ r2 = R 622 x))) ∨ ((x < 0 ∨ 4 < x) ∧ r2 = -3))) : r = r2 := by
  by_cases hx : 0 ≤ x ∧ x < 5
  · have e := h.2.2.2.1 x hx.1 hx.2
    split at e <;> omega
  · omega
theorem op_tape {C R : jm} {r r2 x : Int} (h : RDA C R) (p : ((0 ≤ x ∧ x < C 0 1) ∧ r = C 1 x) ∨ ((x < 0 ∨ C 0 1 ≤ x) ∧ r = -1)) (q : (((0 ≤ x ∧ x < R 598 1) ∧ r2 = R 599 x) ∨ ((x < 0 ∨ R 598 1 ≤ x) ∧ r2 = -1))) : r = r2 := by
  rw [h.1.1, h.1.2] at p
  omega
end
