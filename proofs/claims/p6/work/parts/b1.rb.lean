/-! ===== both sides answer alike: headers, tape, packets ===== -/
theorem hsF_n (f : Int → Int) (n c bk k a : Int) : 0 ≤ hsF f n c bk k a := by
  unfold hsF
  (repeat' split) <;> omega
theorem hF_n (f : Int → Int) (N i : Int) : 0 ≤ hF f N i := hsF_n _ _ _ _ _ _
theorem op_kind {C D R S : jm} {r r2 : Int} (h : RDA C R) (hG : RG1 R) (hI : RI R) {x y z : Int} (f : FR W_c_PacketWall_kind_x C D) (p : (((x < 0 ∨ 23 < x ∨ C (xe 2 x) 1 = -1) ∧ r = -2) ∨ (((0 ≤ x ∧ x ≤ 23) ∧ C (xe 2 x) 1 ≠ -1) ∧ ∃ C_ : Int, HE (rf R x) (C (xe 2 x) 1) C_ ∧ r = kA (rf R x) (C (xe 2 x) 1) C_ y))) (q : (((x < 0 ∨ 23 < x ∨ R 600 x = -1) ∧ r2 = -2) ∨ (((0 ≤ x ∧ x ≤ 23) ∧ R 600 x ≠ -1) ∧ ∃ C_ : Int, HE (rf R x) (R 600 x) C_ ∧ r2 = kA (rf R x) (R 600 x) C_ y))) (hf : ∀ (a : Nat) (i : Int), a ≠ 598 → a ≠ 603 → a ≠ 604 → a ≠ 605 → S a i = R a i) (hk : ∀ (i : Int), i ≠ 6 → i ≠ 10 → i ≠ 11 → i ≠ 12 → S 598 i = R 598 i) : RDA D S ∧ r = r2 := by
  refine ⟨⟨((h.1.f f rfl).r (fun i => hf 599 i (by decide) (by decide) (by decide) (by decide)) (hk 1 (by decide) (by decide) (by decide) (by decide))), ((h.2.1.f f rfl).r (fun a i _ _ => hf a i (by omega) (by omega) (by omega) (by omega))), ((h.2.2.1.f f rfl).r (fun i _ _ => (hk i (by omega) (by omega) (by omega) (by omega)))), ((h.2.2.2.1.f f rfl).r (fun i => hf 622 i (by decide) (by decide) (by decide) (by decide)) (hk 34 (by decide) (by decide) (by decide) (by decide))), ((h.2.2.2.2.1.f f rfl).r (fun a i _ _ => hf a i (by omega) (by omega) (by omega) (by omega))), ((h.2.2.2.2.2.1.f f rfl).r (fun a i _ _ => hf a i (by omega) (by omega) (by omega) (by omega))), ((h.2.2.2.2.2.2.f f rfl).r hG hI (fun a i _ _ => hf a i (by omega) (by omega) (by omega) (by omega)))⟩, ?_⟩
  by_cases hx : 0 ≤ x ∧ x ≤ 23
  · have hN := (h.2.1 x (by omega) (by omega)).1
    rw [hN] at p
    rcases p with p | ⟨p0, c1, p1, p2⟩ <;> rcases q with q | ⟨q0, c2, q1, q2⟩
    · omega
    · exact absurd p.1 (by omega)
    · exact absurd q.1 (by omega)
    · have e := HE.u p1 q1
      subst e
      rw [p2, q2]
  · rcases p with p | p <;> rcases q with q | q
    · omega
    · exact absurd q.1.1 hx
    · exact absurd p.1.1 hx
    · exact absurd p.1.1 hx
theorem op_place {C D R S : jm} {r r2 : Int} (h : RDA C R) (hG : RG1 R) (hI : RI R) {x y z : Int} (f : FR W_c_PacketWall_place_x C D) (p : (((x < 0 ∨ 23 < x ∨ C (xe 2 x) 1 = -1) ∧ r = -2) ∨ (((0 ≤ x ∧ x ≤ 23) ∧ C (xe 2 x) 1 ≠ -1) ∧ ∃ C_ : Int, HE (rf R x) (C (xe 2 x) 1) C_ ∧ r = pA (rf R x) (C (xe 2 x) 1) C_ y))) (q : (((x < 0 ∨ 23 < x ∨ R 600 x = -1) ∧ r2 = -2) ∨ (((0 ≤ x ∧ x ≤ 23) ∧ R 600 x ≠ -1) ∧ ∃ C_ : Int, HE (rf R x) (R 600 x) C_ ∧ r2 = pA (rf R x) (R 600 x) C_ y))) (hf : ∀ (a : Nat) (i : Int), a ≠ 598 → a ≠ 603 → a ≠ 604 → a ≠ 605 → S a i = R a i) (hk : ∀ (i : Int), i ≠ 6 → i ≠ 10 → i ≠ 11 → i ≠ 12 → S 598 i = R 598 i) : RDA D S ∧ r = r2 := by
  refine ⟨⟨((h.1.f f rfl).r (fun i => hf 599 i (by decide) (by decide) (by decide) (by decide)) (hk 1 (by decide) (by decide) (by decide) (by decide))), ((h.2.1.f f rfl).r (fun a i _ _ => hf a i (by omega) (by omega) (by omega) (by omega))), ((h.2.2.1.f f rfl).r (fun i _ _ => (hk i (by omega) (by omega) (by omega) (by omega)))), ((h.2.2.2.1.f f rfl).r (fun i => hf 622 i (by decide) (by decide) (by decide) (by decide)) (hk 34 (by decide) (by decide) (by decide) (by decide))), ((h.2.2.2.2.1.f f rfl).r (fun a i _ _ => hf a i (by omega) (by omega) (by omega) (by omega))), ((h.2.2.2.2.2.1.f f rfl).r (fun a i _ _ => hf a i (by omega) (by omega) (by omega) (by omega))), ((h.2.2.2.2.2.2.f f rfl).r hG hI (fun a i _ _ => hf a i (by omega) (by omega) (by omega) (by omega)))⟩, ?_⟩
  by_cases hx : 0 ≤ x ∧ x ≤ 23
  · have hN := (h.2.1 x (by omega) (by omega)).1
    rw [hN] at p
    rcases p with p | ⟨p0, c1, p1, p2⟩ <;> rcases q with q | ⟨q0, c2, q1, q2⟩
    · omega
    · exact absurd p.1 (by omega)
    · exact absurd q.1 (by omega)
    · have e := HE.u p1 q1
      subst e
      rw [p2, q2]
  · rcases p with p | p <;> rcases q with q | q
    · omega
    · exact absurd q.1.1 hx
    · exact absurd p.1.1 hx
    · exact absurd p.1.1 hx
theorem op_field {C D R S : jm} {r r2 : Int} (h : RDA C R) (hG : RG1 R) (hI : RI R) {x y z : Int} (f : FR W_c_PacketWall_field_x C D) (p : (((x < 0 ∨ 23 < x ∨ C (xe 2 x) 1 = -1) ∧ r = -2) ∨ (((0 ≤ x ∧ x ≤ 23) ∧ C (xe 2 x) 1 ≠ -1) ∧ ∃ C_ : Int, HE (rf R x) (C (xe 2 x) 1) C_ ∧ r = vA (rf R x) (C (xe 2 x) 1) C_ y z))) (q : (((x < 0 ∨ 23 < x ∨ R 600 x = -1) ∧ r2 = -2) ∨ (((0 ≤ x ∧ x ≤ 23) ∧ R 600 x ≠ -1) ∧ ∃ C_ : Int, HE (rf R x) (R 600 x) C_ ∧ r2 = vA (rf R x) (R 600 x) C_ y z))) (hf : ∀ (a : Nat) (i : Int), a ≠ 598 → a ≠ 603 → a ≠ 604 → a ≠ 605 → S a i = R a i) (hk : ∀ (i : Int), i ≠ 6 → i ≠ 10 → i ≠ 11 → i ≠ 12 → S 598 i = R 598 i) : RDA D S ∧ r = r2 := by
  refine ⟨⟨((h.1.f f rfl).r (fun i => hf 599 i (by decide) (by decide) (by decide) (by decide)) (hk 1 (by decide) (by decide) (by decide) (by decide))), ((h.2.1.f f rfl).r (fun a i _ _ => hf a i (by omega) (by omega) (by omega) (by omega))), ((h.2.2.1.f f rfl).r (fun i _ _ => (hk i (by omega) (by omega) (by omega) (by omega)))), ((h.2.2.2.1.f f rfl).r (fun i => hf 622 i (by decide) (by decide) (by decide) (by decide)) (hk 34 (by decide) (by decide) (by decide) (by decide))), ((h.2.2.2.2.1.f f rfl).r (fun a i _ _ => hf a i (by omega) (by omega) (by omega) (by omega))), ((h.2.2.2.2.2.1.f f rfl).r (fun a i _ _ => hf a i (by omega) (by omega) (by omega) (by omega))), ((h.2.2.2.2.2.2.f f rfl).r hG hI (fun a i _ _ => hf a i (by omega) (by omega) (by omega) (by omega)))⟩, ?_⟩
  by_cases hx : 0 ≤ x ∧ x ≤ 23
  · have hN := (h.2.1 x (by omega) (by omega)).1
    rw [hN] at p
    rcases p with p | ⟨p0, c1, p1, p2⟩ <;> rcases q with q | ⟨q0, c2, q1, q2⟩
    · omega
    · exact absurd p.1 (by omega)
    · exact absurd q.1 (by omega)
    · have e := HE.u p1 q1
      subst e
      rw [p2, q2]
  · rcases p with p | p <;> rcases q with q | q
    · omega
    · exact absurd q.1.1 hx
    · exact absurd p.1.1 hx
    · exact absurd p.1.1 hx
theorem op_sum {C D R S : jm} {r r2 : Int} (h : RDA C R) (hG : RG1 R) (hI : RI R) {x y z : Int} (f : FR W_c_PacketWall_sum_x C D) (p : (((x < 0 ∨ 23 < x ∨ C (xe 2 x) 1 = -1) ∧ r = -2) ∨ (((0 ≤ x ∧ x ≤ 23) ∧ C (xe 2 x) 1 ≠ -1) ∧ ∃ C_ : Int, HE (rf R x) (C (xe 2 x) 1) C_ ∧ r = dS (rf R x) (rf R x) (C (xe 2 x) 1) C_ y))) (q : (((x < 0 ∨ 23 < x ∨ R 600 x = -1) ∧ r2 = -2) ∨ (((0 ≤ x ∧ x ≤ 23) ∧ R 600 x ≠ -1) ∧ ∃ C_ : Int, HE (rf R x) (R 600 x) C_ ∧ r2 = dS (rf R x) (rf R x) (R 600 x) C_ y))) (hf : ∀ (a : Nat) (i : Int), a ≠ 598 → a ≠ 603 → a ≠ 604 → a ≠ 605 → S a i = R a i) (hk : ∀ (i : Int), i ≠ 6 → i ≠ 10 → i ≠ 11 → i ≠ 12 → S 598 i = R 598 i) : RDA D S ∧ r = r2 := by
  refine ⟨⟨((h.1.f f rfl).r (fun i => hf 599 i (by decide) (by decide) (by decide) (by decide)) (hk 1 (by decide) (by decide) (by decide) (by decide))), ((h.2.1.f f rfl).r (fun a i _ _ => hf a i (by omega) (by omega) (by omega) (by omega))), ((h.2.2.1.f f rfl).r (fun i _ _ => (hk i (by omega) (by omega) (by omega) (by omega)))), ((h.2.2.2.1.f f rfl).r (fun i => hf 622 i (by decide) (by decide) (by decide) (by decide)) (hk 34 (by decide) (by decide) (by decide) (by decide))), ((h.2.2.2.2.1.f f rfl).r (fun a i _ _ => hf a i (by omega) (by omega) (by omega) (by omega))), ((h.2.2.2.2.2.1.f f rfl).r (fun a i _ _ => hf a i (by omega) (by omega) (by omega) (by omega))), ((h.2.2.2.2.2.2.f f rfl).r hG hI (fun a i _ _ => hf a i (by omega) (by omega) (by omega) (by omega)))⟩, ?_⟩
  by_cases hx : 0 ≤ x ∧ x ≤ 23
  · have hN := (h.2.1 x (by omega) (by omega)).1
    rw [hN] at p
    rcases p with p | ⟨p0, c1, p1, p2⟩ <;> rcases q with q | ⟨q0, c2, q1, q2⟩
    · omega
    · exact absurd p.1 (by omega)
    · exact absurd q.1 (by omega)
    · have e := HE.u p1 q1
      subst e
      rw [p2, q2]
  · rcases p with p | p <;> rcases q with q | q
    · omega
    · exact absurd q.1.1 hx
    · exact absurd p.1.1 hx
    · exact absurd p.1.1 hx
theorem op_carried {C D R S : jm} {r r2 : Int} (h : RDA C R) (hG : RG1 R) (hI : RI R) {x y z : Int} (f : FR W_c_PacketWall_carried_x C D) (p : (((x < 0 ∨ 23 < x ∨ C (xe 2 x) 1 = -1) ∧ r = -2) ∨ (((0 ≤ x ∧ x ≤ 23) ∧ C (xe 2 x) 1 ≠ -1) ∧ ∃ C_ : Int, HE (rf R x) (C (xe 2 x) 1) C_ ∧ (((y < 0 ∨ z < 0 ∨ C_ < y + z) ∧ r = -3) ∨ ((0 ≤ y ∧ 0 ≤ z ∧ y + z ≤ C_) ∧ r = crr (rf R x) (C (xe 2 x) 1) z.toNat y))))) (q : (((x < 0 ∨ 23 < x ∨ R 600 x = -1) ∧ r2 = -2) ∨ (((0 ≤ x ∧ x ≤ 23) ∧ R 600 x ≠ -1) ∧ ∃ C_ : Int, HE (rf R x) (R 600 x) C_ ∧ (((y < 0 ∨ z < 0 ∨ C_ < y + z) ∧ r2 = -3) ∨ ((0 ≤ y ∧ 0 ≤ z ∧ y + z ≤ C_) ∧ r2 = crr (rf R x) (R 600 x) z.toNat y))))) (hf : ∀ (a : Nat) (i : Int), a ≠ 598 → a ≠ 603 → a ≠ 604 → a ≠ 605 → S a i = R a i) (hk : ∀ (i : Int), i ≠ 6 → i ≠ 10 → i ≠ 11 → i ≠ 12 → S 598 i = R 598 i) : RDA D S ∧ r = r2 := by
  refine ⟨⟨((h.1.f f rfl).r (fun i => hf 599 i (by decide) (by decide) (by decide) (by decide)) (hk 1 (by decide) (by decide) (by decide) (by decide))), ((h.2.1.f f rfl).r (fun a i _ _ => hf a i (by omega) (by omega) (by omega) (by omega))), ((h.2.2.1.f f rfl).r (fun i _ _ => (hk i (by omega) (by omega) (by omega) (by omega)))), ((h.2.2.2.1.f f rfl).r (fun i => hf 622 i (by decide) (by decide) (by decide) (by decide)) (hk 34 (by decide) (by decide) (by decide) (by decide))), ((h.2.2.2.2.1.f f rfl).r (fun a i _ _ => hf a i (by omega) (by omega) (by omega) (by omega))), ((h.2.2.2.2.2.1.f f rfl).r (fun a i _ _ => hf a i (by omega) (by omega) (by omega) (by omega))), ((h.2.2.2.2.2.2.f f rfl).r hG hI (fun a i _ _ => hf a i (by omega) (by omega) (by omega) (by omega)))⟩, ?_⟩
  by_cases hx : 0 ≤ x ∧ x ≤ 23
  · have hN := (h.2.1 x (by omega) (by omega)).1
    rw [hN] at p
    rcases p with p | ⟨p0, c1, p1, p2⟩ <;> rcases q with q | ⟨q0, c2, q1, q2⟩
    · omega
    · exact absurd p.1 (by omega)
    · exact absurd q.1 (by omega)
    · have e := HE.u p1 q1
      subst e
      omega
  · rcases p with p | p <;> rcases q with q | q
    · omega
    · exact absurd q.1.1 hx
    · exact absurd p.1.1 hx
    · exact absurd p.1.1 hx
theorem op_at {C R : jm} {r r2 x y : Int} (h : RDA C R) (hI : RI R) (p : (((x < 0 ∨ 23 < x ∨ C (xe 2 x) 1 = -1) ∧ r = -2) ∨ ((0 ≤ x ∧ x ≤ 23) ∧ C (xe 2 x) 1 ≠ -1 ∧ ((y = -1 ∧ r = C (xe 2 x) 1) ∨ (y ≠ -1 ∧ (0 ≤ y ∧ y < C (xe 2 x) 1) ∧ r = C ((xe 2 x) + 1) y) ∨ (y ≠ -1 ∧ (y < 0 ∨ C (xe 2 x) 1 ≤ y) ∧ r = -1))))) (q : (((x < 0 ∨ 23 < x ∨ R 600 x = -1) ∧ r2 = -2) ∨ ((0 ≤ x ∧ x ≤ 23) ∧ R 600 x ≠ -1 ∧ ((y = -1 ∧ r2 = R 600 x) ∨ (y ≠ -1 ∧ (0 ≤ y ∧ y < R 600 x) ∧ r2 = R 601 (400 * x + y)) ∨ (y ≠ -1 ∧ (y < 0 ∨ R 600 x ≤ y) ∧ r2 = -1))))) : r = r2 := by
  by_cases hx : 0 ≤ x ∧ x ≤ 23
  · have hN := (h.2.1 x (by omega) (by omega)).1
    have hB := (h.2.1 x (by omega) (by omega)).2 y
    have b : R 600 x ≤ 400 := by have q := hI 600 x (by decide); rw [xri_row rfl rfl] at q; exact q.2
    rw [hN] at p
    by_cases hy : 0 ≤ y ∧ y < 400
    · rw [hB hy.1 hy.2] at p
      omega
    · omega
  · omega
theorem op_digest {C R S : jm} {r r2 x : Int} (h : RDA C R) (hI : RI R) (p : (((x < 0 ∨ 23 < x ∨ C (xe 2 x) 1 = -1) ∧ r = 0) ∨ ((0 ≤ x ∧ x ≤ 23) ∧ C (xe 2 x) 1 ≠ -1 ∧ r = dg (fun k => C ((xe 2 x) + 1) k) (C (xe 2 x) 1).toNat))) (q : (((x < 0 ∨ 23 < x ∨ S 600 x = -1) ∧ r2 = 0) ∨ ((0 ≤ x ∧ x ≤ 23) ∧ S 600 x ≠ -1 ∧ r2 = dg (fun j => S 601 (400 * x + j)) (S 600 x).toNat))) (e : ∀ (a : Nat) (i : Int), a ≠ 603 → S a i = R a i) : r = r2 := by
  have e0 : S 600 x = R 600 x := e 600 x (by decide)
  have e1 : (fun j => S 601 (400 * x + j)) = rf R x := funext (fun j => e 601 _ (by decide))
  rw [e0, e1] at q
  by_cases hx : 0 ≤ x ∧ x ≤ 23
  · have hN := (h.2.1 x (by omega) (by omega)).1
    have b : R 600 x ≤ 400 := by have q := hI 600 x (by decide); rw [xri_row rfl rfl] at q; exact q.2
    have d : ∀ n : Nat, (n : Int) ≤ 400 → dg (fun k => C ((xe 2 x) + 1) k) n = dg (rf R x) n := by
      intro n
      induction n with
      | zero => intro _; rfl
      | succ n ih =>
        intro hn
        show jl_w (jl_xor (dg _ n) (C ((xe 2 x) + 1) n) * _) = jl_w (jl_xor (dg _ n) (rf R x n) * _)
        rw [ih (by omega), (h.2.1 x (by omega) (by omega)).2 n (by omega) (by omega)]
        rfl
    rw [hN] at p
    by_cases hm : R 600 x = -1
    · omega
    · have nb : -1 ≤ R 600 x := by have q := hI 600 x (by decide); rw [xri_row rfl rfl] at q; exact q.1
      rw [d (R 600 x).toNat (by omega)] at p
      omega
  · omega
theorem op_finding {C R : jm} {r r2 x : Int} (h : RDA C R) (p : (((0 ≤ x ∧ x < 4) ∧ r = C 9 x) ∨ ((x < 0 ∨ 4 ≤ x) ∧ r = -3))) (q : ((x = 0 ∧ ((R 598 13 = -1 ∧ r2 = 0) ∨ (R 598 13 ≠ -1 ∧ r2 = R 598 13))) ∨ (x = 1 ∧ r2 = R 598 14) ∨ (x = 2 ∧ r2 = R 598 15) ∨ (x = 3 ∧ r2 = R 598 16) ∨ ((x < 0 ∨ 3 < x) ∧ r2 = -3))) : r = r2 := by
  obtain ⟨h0, h1, h2, h3⟩ := h.2.2.1
  by_cases hx : 0 ≤ x ∧ x < 4
  · rcases (show x = 0 ∨ x = 1 ∨ x = 2 ∨ x = 3 by omega) with rfl | rfl | rfl | rfl
    · split at h0 <;> omega
    · omega
    · omega
    · omega
  · omega
theorem op_gathered {C R : jm} {r r2 x : Int} (h : RDA C R) (p : (((0 ≤ x ∧ x < 5) ∧ r = C 14 x) ∨ ((x < 0 ∨ 5 ≤ x) ∧ r = -3))) (q : (((0 ≤ x ∧ x ≤ 4) ∧ ((R 598 34 = 0 ∧ r2 = -1) ∨ (R 598 34 ≠ 0 ∧ r2 = R 622 x))) ∨ ((x < 0 ∨ 4 < x) ∧ r2 = -3))) : r = r2 := by
  by_cases hx : 0 ≤ x ∧ x < 5
  · have e := h.2.2.2.1 x hx.1 hx.2
    split at e <;> omega
  · omega
theorem op_tape {C R : jm} {r r2 x : Int} (h : RDA C R) (p : ((0 ≤ x ∧ x < C 0 1) ∧ r = C 1 x) ∨ ((x < 0 ∨ C 0 1 ≤ x) ∧ r = -1)) (q : (((0 ≤ x ∧ x < R 598 1) ∧ r2 = R 599 x) ∨ ((x < 0 ∨ R 598 1 ≤ x) ∧ r2 = -1))) : r = r2 := by
  rw [h.1.1, h.1.2] at p
  omega
theorem op_feed {C D R S : jm} {r r2 : Int} (h : RDA C R) (hG : RG1 R) (hI : RI R) {x y z u v : Int} (f : FR W_c_PacketWall_feed_f C D) (p : ((C 0 1 + 20 ≤ 1600 ∧ r = C 0 1 + 20 ∧ D 1 = t4 (t4 (t4 (t4 (t4 (C 1) (C 0 1) x) (C 0 1 + 4) y) ((C 0 1 + 4) + 4) z) (((C 0 1 + 4) + 4) + 4) u) ((((C 0 1 + 4) + 4) + 4) + 4) v) ∨ (1600 < C 0 1 + 20 ∧ r = -5 ∧ D 1 = C 1))) (pl : ((C 0 1 + 20 ≤ 1600 ∧ D 0 1 = C 0 1 + 20) ∨ (1600 < C 0 1 + 20 ∧ D 0 1 = C 0 1))) (q : ((R 598 1 + 20 ≤ 1600 ∧ r2 = R 598 1 + 20 ∧ S 599 = t4 (t4 (t4 (t4 (t4 (R 599) (R 598 1) x) (R 598 1 + 4) y) ((R 598 1 + 4) + 4) z) (((R 598 1 + 4) + 4) + 4) u) ((((R 598 1 + 4) + 4) + 4) + 4) v ∧ S 598 1 = R 598 1 + 20) ∨ (1600 < R 598 1 + 20 ∧ r2 = -5 ∧ S 599 = R 599 ∧ S 598 1 = R 598 1))) (hf : ∀ (a : Nat) (i : Int), a ≠ 598 → a ≠ 599 → S a i = R a i) (hk : ∀ (i : Int), i ≠ 1 → S 598 i = R 598 i) : RDA D S ∧ r = r2 := by
  rw [h.1.1, h.1.2] at p
  rw [h.1.2] at pl
  refine ⟨⟨?_, ((h.2.1.f f rfl).r (fun a i _ _ => hf a i (by omega) (by omega))), ((h.2.2.1.f f rfl).r (fun i _ _ => (hk i (by omega)))), ((h.2.2.2.1.f f rfl).r (fun i => hf 622 i (by decide) (by decide)) (hk 34 (by decide))), ((h.2.2.2.2.1.f f rfl).r (fun a i _ _ => hf a i (by omega) (by omega))), ((h.2.2.2.2.2.1.f f rfl).r (fun a i _ _ => hf a i (by omega) (by omega))), ((h.2.2.2.2.2.2.f f rfl).r hG hI (fun a i _ _ => hf a i (by omega) (by omega)))⟩, ?_⟩
  · refine ⟨?_, by omega⟩
    rcases p with p | p <;> rcases q with q | q
    · rw [p.2.2, q.2.2.1]
    · omega
    · omega
    · rw [p.2.2, q.2.2.1]
  · omega
theorem op_end {C D R S : jm} {r r2 : Int} (h : RDA C R) (hG : RG1 R) (hI : RI R) {x : Int} (f : FR W_c_PacketWall_end_x C D) (p : (((0 ≤ x ∧ x ≤ C 0 1) ∧ r = x ∧ D 0 1 = x) ∨ ((x < 0 ∨ C 0 1 < x) ∧ r = -3 ∧ D 0 1 = C 0 1))) (q : (((0 ≤ x ∧ x ≤ R 598 1) ∧ r2 = x ∧ S 598 1 = x) ∨ ((x < 0 ∨ R 598 1 < x) ∧ r2 = -3 ∧ S 598 1 = R 598 1))) (hf : ∀ (a : Nat) (i : Int), a ≠ 598 → S a i = R a i) (hk : ∀ (i : Int), i ≠ 1 → S 598 i = R 598 i) : RDA D S ∧ r = r2 := by
  rw [h.1.2] at p
  have e1 : D 1 = C 1 := funext (fun i => f.g (show kd 1 = 43 from rfl) rfl)
  have e2 : S 599 = R 599 := funext (fun i => hf 599 i (by decide))
  exact ⟨⟨⟨by rw [e1, e2]; exact h.1.1, by omega⟩, ((h.2.1.f f rfl).r (fun a i _ _ => hf a i (by omega))), ((h.2.2.1.f f rfl).r (fun i _ _ => (hk i (by omega)))), ((h.2.2.2.1.f f rfl).r (fun i => hf 622 i (by decide)) (hk 34 (by decide))), ((h.2.2.2.2.1.f f rfl).r (fun a i _ _ => hf a i (by omega))), ((h.2.2.2.2.2.1.f f rfl).r (fun a i _ _ => hf a i (by omega))), ((h.2.2.2.2.2.2.f f rfl).r hG hI (fun a i _ _ => hf a i (by omega)))⟩, by omega⟩
theorem rdp_bytes {C R : jm} (h : RDp C R) {D S : jm} {x : Int} {g g2 : Int → Int} (hx : 0 ≤ x ∧ x < 24) (e1 : ∀ p : Int, 0 ≤ p → p < 24 → D (xe 2 p) 1 = S 600 p) (hb : ∀ i : Int, 0 ≤ i → i < 400 → D (xe 2 x + 1) i = g i) (hs : ∀ i : Int, 0 ≤ i → i < 400 → S 601 (400 * x + i) = g2 i) (hg : ∀ i : Int, 0 ≤ i → i < 400 → g i = g2 i) (ed : ∀ p : Int, 0 ≤ p → p < 24 → p ≠ x → ∀ i : Int, D (xe 2 p + 1) i = C (xe 2 p + 1) i) (es : ∀ j : Int, (j < 400 * x ∨ 400 * x + 400 ≤ j) → S 601 j = R 601 j) : RDp D S := fun p p0 p1 => by
  refine ⟨e1 p p0 p1, fun i i0 i1 => ?_⟩
  by_cases e : p = x
  · subst e
    rw [hb i i0 i1, hs i i0 i1, hg i i0 i1]
  · rw [ed p p0 p1 e, es _ (by omega)]
    exact (h p p0 p1).2 i i0 i1
theorem xpk_ne {p x : Int} (hp : 0 ≤ p ∧ p < 24) (hx : 0 ≤ x ∧ x < 24) (h : p ≠ x) : xe 2 p ≠ xe 2 x ∧ xe 2 p ≠ xe 2 x + 1 ∧ xe 2 p + 1 ≠ xe 2 x ∧ xe 2 p + 1 ≠ xe 2 x + 1 := by
  have a := xpk hp
  have b := xpk hx
  omega
theorem xpk_z {p : Int} (hp : 0 ≤ p ∧ p < 24) : xe 2 p ≠ 0 ∧ xe 2 p + 1 ≠ 0 ∧ xe 2 p ≠ 1 ∧ xe 2 p + 1 ≠ 1 ∧ xe 2 p ≠ xe 2 p + 1 := by
  have a := xpk hp
  omega
theorem op_packet {C D R S : jm} {r r2 : Int} (h : RDA C R) (hG : RG1 R) (hI : RI R) {x : Int} (f : FR W_c_PacketWall_packet_x C D) (p : (((x < 0 ∨ 23 < x ∨ 400 < C 0 1) ∧ r = -3 ∧ D = C) ∨ ((0 ≤ x ∧ x ≤ 23) ∧ C 0 1 ≤ 400 ∧ r = C 0 1 ∧ D = pkm C (xe 2 x) (C 0 1)))) (q : (((x < 0 ∨ 23 < x ∨ 400 < R 598 1) ∧ r2 = -3 ∧ S 598 1 = R 598 1 ∧ S 600 = R 600 ∧ S 601 = R 601) ∨ ((0 ≤ x ∧ x ≤ 23) ∧ R 598 1 ≤ 400 ∧ r2 = R 598 1 ∧ S 598 1 = 0 ∧ S 601 = pk6 (R 601) (R 599) x (R 598 1) ∧ (∀ j : Int, j ≠ x → S 600 j = R 600 j) ∧ S 600 x = R 598 1))) (hf : ∀ (a : Nat) (i : Int), a ≠ 598 → a ≠ 600 → a ≠ 601 → a ≠ 602 → S a i = R a i) (hk : ∀ (i : Int), i ≠ 1 → S 598 i = R 598 i) : RDA D S ∧ r = r2 := by
  have e2 : S 599 = R 599 := funext (fun i => hf 599 i (by decide) (by decide) (by decide) (by decide))
  have e1 : D 1 = C 1 := funext (fun i => f.g (show kd 1 = 43 from rfl) rfl)
  rw [h.1.2] at p
  rcases p with ⟨p0, p1, p2⟩ | ⟨p0, p1, p2, p3⟩ <;> rcases q with ⟨q0, q1, q2, q3, q4⟩ | ⟨q0, q1, q2, q3, q4, q5, q6⟩
  · refine ⟨⟨?_, ?_, ((h.2.2.1.f f rfl).r (fun i _ _ => (hk i (by omega)))), ((h.2.2.2.1.f f rfl).r (fun i => hf 622 i (by decide) (by decide) (by decide) (by decide)) (hk 34 (by decide))), ((h.2.2.2.2.1.f f rfl).r (fun a i _ _ => hf a i (by omega) (by omega) (by omega) (by omega))), ((h.2.2.2.2.2.1.f f rfl).r (fun a i _ _ => hf a i (by omega) (by omega) (by omega) (by omega))), ((h.2.2.2.2.2.2.f f rfl).r hG hI (fun a i _ _ => hf a i (by omega) (by omega) (by omega) (by omega)))⟩, by omega⟩
    · exact ⟨by rw [e1, e2]; exact h.1.1, by rw [p2, q2]; exact h.1.2⟩
    · intro b b0 b1
      rw [p2, q3, q4]
      exact h.2.1 b b0 b1
  · omega
  · omega
  · have z := xpk_z (p := x) ⟨by omega, by omega⟩
    refine ⟨⟨?_, ?_, ((h.2.2.1.f f rfl).r (fun i _ _ => (hk i (by omega)))), ((h.2.2.2.1.f f rfl).r (fun i => hf 622 i (by decide) (by decide) (by decide) (by decide)) (hk 34 (by decide))), ((h.2.2.2.2.1.f f rfl).r (fun a i _ _ => hf a i (by omega) (by omega) (by omega) (by omega))), ((h.2.2.2.2.2.1.f f rfl).r (fun a i _ _ => hf a i (by omega) (by omega) (by omega) (by omega))), ((h.2.2.2.2.2.2.f f rfl).r hG hI (fun a i _ _ => hf a i (by omega) (by omega) (by omega) (by omega)))⟩, by omega⟩
    · refine ⟨by rw [e1, e2]; exact h.1.1, ?_⟩
      rw [q3, p3]
      rfl
    · refine rdp_bytes h.2.1 (x := x) (g := fun k => if 0 ≤ k ∧ k < 0 + R 598 1 then C 1 (0 + (k - 0)) else C (xe 2 x + 1) k) (g2 := fun k => if 0 ≤ k ∧ k < 0 + R 598 1 then R 599 (0 + (k - 0)) else R 601 (400 * x + k)) (by omega) ?_ ?_ ?_ ?_ ?_ ?_
      · intro b b0 b1
        have zb := xpk_z (p := b) ⟨b0, b1⟩
        by_cases e : b = x
        · subst e
          rw [q6, p3]
          unfold pkm
          rw [if_neg (by omega), if_neg (by omega), if_pos ⟨rfl, rfl⟩]
        · have n := xpk_ne (p := b) (x := x) ⟨b0, b1⟩ (by omega) e
          rw [q5 b e, p3]
          unfold pkm
          rw [if_neg (by omega), if_neg (by omega), if_neg (by omega), if_neg (by omega)]
          exact (h.2.1 b b0 b1).1
      · intro i i0 i1
        rw [p3]
        unfold pkm
        rw [if_neg (by omega), if_neg (by omega), if_neg (by omega)]
        by_cases e : 0 ≤ i ∧ i < 0 + R 598 1
        · rw [if_pos ⟨rfl, e⟩]
          exact (if_pos e).symm
        · rw [if_neg (by omega)]
          exact (if_neg e).symm
      · intro i i0 i1
        rw [q4]
        unfold pk6
        by_cases e : 0 ≤ i ∧ i < 0 + R 598 1
        · rw [if_pos (by omega)]
          refine Eq.trans ?_ (if_pos e).symm
          congr 1
          omega
        · rw [if_neg (by omega)]
          exact (if_neg e).symm
      · intro i i0 i1
        show (if 0 ≤ i ∧ i < 0 + R 598 1 then C 1 (0 + (i - 0)) else C (xe 2 x + 1) i) = if 0 ≤ i ∧ i < 0 + R 598 1 then R 599 (0 + (i - 0)) else R 601 (400 * x + i)
        rw [h.1.1, (h.2.1 x (by omega) (by omega)).2 i i0 i1]
      · intro b b0 b1 e i
        have zb := xpk_z (p := b) ⟨b0, b1⟩
        have n := xpk_ne (p := b) (x := x) ⟨b0, b1⟩ (by omega) e
        rw [p3]
        unfold pkm
        rw [if_neg (by omega), if_neg (by omega), if_neg (by omega), if_neg (by omega)]
      · intro j hj
        rw [q4]
        unfold pk6
        rw [if_neg (by omega)]
theorem op_drop {C D R S : jm} {r r2 : Int} (h : RDA C R) (hG : RG1 R) (hI : RI R) {x : Int} (f : FR W_c_PacketWall_drop_x C D) (p : (((x < 0 ∨ 23 < x) ∧ r = -3 ∧ D = C) ∨ ((0 ≤ x ∧ x ≤ 23) ∧ ((C (xe 2 x) 1 = -1 ∧ r = 0) ∨ (C (xe 2 x) 1 ≠ -1 ∧ r = 1)) ∧ D = ju (ju C (xe 2 x) 1 (-1)) (xe 2 x) 2 0))) (q : (((x < 0 ∨ 23 < x) ∧ r2 = -3 ∧ S = R) ∨ ((0 ≤ x ∧ x ≤ 23) ∧ ((R 600 x = -1 ∧ r2 = 0) ∨ (R 600 x ≠ -1 ∧ r2 = 1)) ∧ S = ju (ju R 600 x (-1)) 602 x 0))) (hf : ∀ (a : Nat) (i : Int), a ≠ 600 → a ≠ 602 → S a i = R a i) (hk : ∀ (i : Int), i ≠ 1 → S 598 i = R 598 i) : RDA D S ∧ r = r2 := by
  rcases p with ⟨p0, p1, p2⟩ | ⟨p0, p1, p2⟩ <;> rcases q with ⟨q0, q1, q2⟩ | ⟨q0, q1, q2⟩
  · rw [p2, q2]
    exact ⟨h, by omega⟩
  · omega
  · omega
  · have hN := (h.2.1 x (by omega) (by omega)).1
    rw [hN] at p1
    refine ⟨⟨((h.1.f f rfl).r (fun i => hf 599 i (by decide) (by decide)) (hf 598 1 (by decide) (by decide))), ?_, ((h.2.2.1.f f rfl).r (fun i _ _ => (hf 598 i (by decide) (by decide)))), ((h.2.2.2.1.f f rfl).r (fun i => hf 622 i (by decide) (by decide)) (hf 598 34 (by decide) (by decide))), ((h.2.2.2.2.1.f f rfl).r (fun a i _ _ => hf a i (by omega) (by omega))), ((h.2.2.2.2.2.1.f f rfl).r (fun a i _ _ => hf a i (by omega) (by omega))), ((h.2.2.2.2.2.2.f f rfl).r hG hI (fun a i _ _ => hf a i (by omega) (by omega)))⟩, by omega⟩
    intro b b0 b1
    have zb := xpk_z (p := b) ⟨b0, b1⟩
    have s1 : S 600 b = ju R 600 x (-1) 600 b := by rw [q2]; exact ju_c _ _ (by decide)
    have s2 : ∀ i : Int, S 601 i = R 601 i := fun i => by rw [q2]; exact (ju_c _ _ (by decide)).trans (ju_c _ _ (by decide))
    have d1 : D (xe 2 b) 1 = ju C (xe 2 x) 1 (-1) (xe 2 b) 1 := by rw [p2]; exact ju_i _ _ (by decide)
    have d2 : ∀ i : Int, D (xe 2 b + 1) i = C (xe 2 b + 1) i := fun i => by
      have zx := xpk_z (p := x) ⟨by omega, by omega⟩
      have n : xe 2 b + 1 ≠ xe 2 x := by
        by_cases e : b = x
        · subst e; omega
        · exact (xpk_ne (p := b) (x := x) ⟨b0, b1⟩ (by omega) e).2.2.1
      rw [p2, ju_c _ _ n, ju_c _ _ n]
    refine ⟨?_, fun i i0 i1 => ?_⟩
    · rw [s1, d1]
      by_cases e : b = x
      · subst e
        rw [ju_same, ju_same]
      · have n := xpk_ne (p := b) (x := x) ⟨b0, b1⟩ (by omega) e
        rw [ju_c _ _ n.1, ju_i _ _ e]
        exact (h.2.1 b b0 b1).1
    · rw [s2, d2]
      exact (h.2.1 b b0 b1).2 i i0 i1
theorem op_set {C D R S : jm} {r r2 : Int} (h : RDA C R) (hG : RG1 R) (hI : RI R) {x y z : Int} (f : FR W_c_PacketWall_set_x C D) (p : (((x < 0 ∨ 23 < x ∨ C (xe 2 x) 1 = -1) ∧ r = -2 ∧ D = C) ∨ ((0 ≤ x ∧ x ≤ 23) ∧ C (xe 2 x) 1 ≠ -1 ∧ (y < 0 ∨ C (xe 2 x) 1 ≤ y ∨ z < 0 ∨ 255 < z) ∧ r = -3 ∧ D = C) ∨ ((0 ≤ x ∧ x ≤ 23) ∧ C (xe 2 x) 1 ≠ -1 ∧ (0 ≤ y ∧ y < C (xe 2 x) 1) ∧ (0 ≤ z ∧ z ≤ 255) ∧ r = C ((xe 2 x) + 1) y ∧ D = ju C ((xe 2 x) + 1) y z))) (q : (((x < 0 ∨ 23 < x ∨ R 600 x = -1) ∧ r2 = -2 ∧ S = R) ∨ ((0 ≤ x ∧ x ≤ 23) ∧ R 600 x ≠ -1 ∧ (y < 0 ∨ R 600 x ≤ y ∨ z < 0 ∨ 255 < z) ∧ r2 = -3 ∧ S = R) ∨ ((0 ≤ x ∧ x ≤ 23) ∧ R 600 x ≠ -1 ∧ (0 ≤ y ∧ y < R 600 x) ∧ (0 ≤ z ∧ z ≤ 255) ∧ r2 = R 601 (400 * x + y) ∧ S = ju R 601 (400 * x + y) z))) (hf : ∀ (a : Nat) (i : Int), a ≠ 601 → S a i = R a i) (hk : ∀ (i : Int), i ≠ 1 → S 598 i = R 598 i) : RDA D S ∧ r = r2 := by
  by_cases hx : 0 ≤ x ∧ x ≤ 23
  · have hN := (h.2.1 x (by omega) (by omega)).1
    have b : R 600 x ≤ 400 := by have q := hI 600 x (by decide); rw [xri_row rfl rfl] at q; exact q.2
    rw [hN] at p
    rcases p with ⟨p0, p1, p2⟩ | ⟨p0, p1, p2, p3, p4⟩ | ⟨p0, p1, p2, p3, p4, p5⟩ <;> rcases q with ⟨q0, q1, q2⟩ | ⟨q0, q1, q2, q3, q4⟩ | ⟨q0, q1, q2, q3, q4, q5⟩
    · rw [p2, q2]
      exact ⟨h, by omega⟩
    · exact absurd p0 (by omega)
    · exact absurd p0 (by omega)
    · exact absurd q0 (by omega)
    · rw [p4, q4]
      exact ⟨h, by omega⟩
    · exact absurd p2 (by omega)
    · exact absurd q0 (by omega)
    · exact absurd q2 (by omega)
    · have hb := (h.2.1 x (by omega) (by omega)).2 y (by omega) (by omega)
      refine ⟨⟨((h.1.f f rfl).r (fun i => hf 599 i (by decide)) (hf 598 1 (by decide))), ?_, ((h.2.2.1.f f rfl).r (fun i _ _ => (hf 598 i (by decide)))), ((h.2.2.2.1.f f rfl).r (fun i => hf 622 i (by decide)) (hf 598 34 (by decide))), ((h.2.2.2.2.1.f f rfl).r (fun a i _ _ => hf a i (by omega))), ((h.2.2.2.2.2.1.f f rfl).r (fun a i _ _ => hf a i (by omega))), ((h.2.2.2.2.2.2.f f rfl).r hG hI (fun a i _ _ => hf a i (by omega)))⟩, by omega⟩
      intro c c0 c1
      have zb := xpk_z (p := c) ⟨c0, c1⟩
      refine ⟨?_, fun i i0 i1 => ?_⟩
      · have s1 : S 600 c = R 600 c := by rw [q5]; exact ju_c _ _ (by decide)
        have d1 : D (xe 2 c) 1 = C (xe 2 c) 1 := by
          rw [p5]
          refine ju_c _ _ ?_
          by_cases e : c = x
          · subst e; omega
          · exact (xpk_ne (p := c) (x := x) ⟨c0, c1⟩ (by omega) e).2.1
        rw [s1, d1]
        exact (h.2.1 c c0 c1).1
      · rw [p5, q5]
        by_cases e : c = x
        · subst e
          by_cases e2 : i = y
          · subst e2
            rw [ju_same, ju_same]
          · rw [ju_i _ _ e2, ju_i _ _ (by omega)]
            exact (h.2.1 c c0 c1).2 i i0 i1
        · have n := xpk_ne (p := c) (x := x) ⟨c0, c1⟩ (by omega) e
          rw [ju_c _ _ (by omega), ju_i _ _ (by omega)]
          exact (h.2.1 c c0 c1).2 i i0 i1
  · rcases p with ⟨p0, p1, p2⟩ | ⟨p0, -⟩ | ⟨p0, -⟩
    · rcases q with ⟨q0, q1, q2⟩ | ⟨q0, -⟩ | ⟨q0, -⟩
      · rw [p2, q2]
        exact ⟨h, by omega⟩
      · exact absurd q0 hx
      · exact absurd q0 hx
    · exact absurd p0 hx
    · exact absurd p0 hx
theorem op_repair {C D R S : jm} {r r2 : Int} (h : RDA C R) (hG : RG1 R) (hI : RI R) {x : Int} (f : FR W_c_PacketWall_repair_x C D) (p : (((x < 0 ∨ 23 < x ∨ C (xe 2 x) 1 = -1) ∧ r = -2 ∧ OP C D 0) ∨ (((0 ≤ x ∧ x ≤ 23) ∧ C (xe 2 x) 1 ≠ -1) ∧ OP C D ((xe 2 x) + 1) ∧ ∃ C_ : Int, HE (rf R x) (C (xe 2 x) 1) C_ ∧ r = rpN (rf R x) (C (xe 2 x) 1) C_ C_.toNat (rf R x) ∧ BY8 D ((xe 2 x) + 1) (rpF (rf R x) (C (xe 2 x) 1) C_ C_.toNat (rf R x))))) (q : (((x < 0 ∨ 23 < x ∨ R 600 x = -1) ∧ r2 = -2 ∧ S = R) ∨ (((0 ≤ x ∧ x ≤ 23) ∧ R 600 x ≠ -1) ∧ (∃ C_ : Int, HE (rf R x) (R 600 x) C_ ∧ r2 = rpN (rf R x) (R 600 x) C_ C_.toNat (rf R x) ∧ rf S x = rpF (rf R x) (R 600 x) C_ C_.toNat (rf R x)) ∧ OX R S x))) (hf : ∀ (a : Nat) (i : Int), a ≠ 598 → a ≠ 601 → a ≠ 603 → a ≠ 604 → a ≠ 605 → S a i = R a i) (hk : ∀ (i : Int), i ≠ 6 → i ≠ 10 → i ≠ 11 → i ≠ 12 → S 598 i = R 598 i) : RDA D S ∧ r = r2 := by
  have d1 : ∀ b : Int, 0 ≤ b → b < 24 → D (xe 2 b) 1 = S 600 b := fun b b0 b1 => by
    rw [f.g (kP b0 b1).1 rfl, hf 600 b (by decide) (by decide) (by decide) (by decide) (by decide)]
    exact (h.2.1 b b0 b1).1
  have same : (x < 0 ∨ 23 < x ∨ R 600 x = -1) → OP C D 0 → S = R → RDp D S := fun _ hp hs b b0 b1 => by
    refine ⟨d1 b b0 b1, fun i i0 i1 => ?_⟩
    have zb := xpk_z (p := b) ⟨b0, b1⟩
    rw [hp _ i zb.2.1 (kP b0 b1).2, hs]
    exact (h.2.1 b b0 b1).2 i i0 i1
  by_cases hx : 0 ≤ x ∧ x ≤ 23
  · have hN := (h.2.1 x (by omega) (by omega)).1
    rw [hN] at p
    rcases p with ⟨p0, p1, p2⟩ | ⟨p0, p1, c1, p2, p3, p4⟩ <;> rcases q with ⟨q0, q1, q2⟩ | ⟨q0, ⟨c2, q1, q2, q3⟩, q4⟩
    · exact ⟨⟨((h.1.f f rfl).r (fun i => hf 599 i (by decide) (by decide) (by decide) (by decide) (by decide)) (hk 1 (by decide) (by decide) (by decide) (by decide))), (same q0 p2 q2), ((h.2.2.1.f f rfl).r (fun i _ _ => (hk i (by omega) (by omega) (by omega) (by omega)))), ((h.2.2.2.1.f f rfl).r (fun i => hf 622 i (by decide) (by decide) (by decide) (by decide) (by decide)) (hk 34 (by decide) (by decide) (by decide) (by decide))), ((h.2.2.2.2.1.f f rfl).r (fun a i _ _ => hf a i (by omega) (by omega) (by omega) (by omega) (by omega))), ((h.2.2.2.2.2.1.f f rfl).r (fun a i _ _ => hf a i (by omega) (by omega) (by omega) (by omega) (by omega))), ((h.2.2.2.2.2.2.f f rfl).r hG hI (fun a i _ _ => hf a i (by omega) (by omega) (by omega) (by omega) (by omega)))⟩, by omega⟩
    · exact absurd p0 (by omega)
    · exact absurd q0 (by omega)
    · have e := HE.u p2 q1
      subst e
      refine ⟨⟨((h.1.f f rfl).r (fun i => hf 599 i (by decide) (by decide) (by decide) (by decide) (by decide)) (hk 1 (by decide) (by decide) (by decide) (by decide))), ?_, ((h.2.2.1.f f rfl).r (fun i _ _ => (hk i (by omega) (by omega) (by omega) (by omega)))), ((h.2.2.2.1.f f rfl).r (fun i => hf 622 i (by decide) (by decide) (by decide) (by decide) (by decide)) (hk 34 (by decide) (by decide) (by decide) (by decide))), ((h.2.2.2.2.1.f f rfl).r (fun a i _ _ => hf a i (by omega) (by omega) (by omega) (by omega) (by omega))), ((h.2.2.2.2.2.1.f f rfl).r (fun a i _ _ => hf a i (by omega) (by omega) (by omega) (by omega) (by omega))), ((h.2.2.2.2.2.2.f f rfl).r hG hI (fun a i _ _ => hf a i (by omega) (by omega) (by omega) (by omega) (by omega)))⟩, by rw [p3, q2]⟩
      exact rdp_bytes h.2.1 (x := x) (by omega) d1 (fun i i0 i1 => (p4 i i0 i1).1) (fun i _ _ => congrFun q3 i) (fun _ _ _ => rfl) (fun b b0 b1 e i => p1 _ i (xpk_ne (p := b) (x := x) ⟨b0, b1⟩ (by omega) e).2.2.2 (kP b0 b1).2) q4
  · rcases p with ⟨p0, p1, p2⟩ | ⟨p0, -⟩
    · rcases q with ⟨q0, q1, q2⟩ | ⟨q0, -⟩
      · exact ⟨⟨((h.1.f f rfl).r (fun i => hf 599 i (by decide) (by decide) (by decide) (by decide) (by decide)) (hk 1 (by decide) (by decide) (by decide) (by decide))), (same q0 p2 q2), ((h.2.2.1.f f rfl).r (fun i _ _ => (hk i (by omega) (by omega) (by omega) (by omega)))), ((h.2.2.2.1.f f rfl).r (fun i => hf 622 i (by decide) (by decide) (by decide) (by decide) (by decide)) (hk 34 (by decide) (by decide) (by decide) (by decide))), ((h.2.2.2.2.1.f f rfl).r (fun a i _ _ => hf a i (by omega) (by omega) (by omega) (by omega) (by omega))), ((h.2.2.2.2.2.1.f f rfl).r (fun a i _ _ => hf a i (by omega) (by omega) (by omega) (by omega) (by omega))), ((h.2.2.2.2.2.2.f f rfl).r hG hI (fun a i _ _ => hf a i (by omega) (by omega) (by omega) (by omega) (by omega)))⟩, by omega⟩
      · exact absurd q0.1 hx
    · exact absurd p0.1 hx
theorem op_read {C D R S : jm} {r r2 : Int} (h : RDA C R) (hG : RG1 R) (hI : RI R) {x : Int} (f : FR W_c_PacketWall_read_x C D) (p : (((x < 0 ∨ 23 < x) ∧ r = -3 ∧ D = C) ∨ (((0 ≤ x ∧ x ≤ 23) ∧ C (xe 2 x) 1 = -1) ∧ (D 9 0 = 2 ∧ D 9 1 = 0 ∧ D 9 2 = -1 ∧ D 9 3 = -1) ∧ r = -12) ∨ (((0 ≤ x ∧ x ≤ 23) ∧ C (xe 2 x) 1 ≠ -1) ∧ ∃ C_ : Int, HE (rf R x) (C (xe 2 x) 1) C_ ∧ RDF (rf R x) (C (xe 2 x) 1) C_ (D 9 0) (D 9 1) (D 9 2) (D 9 3) r))) (q : (((x < 0 ∨ 23 < x) ∧ r2 = -3 ∧ S = R) ∨ (((0 ≤ x ∧ x ≤ 23) ∧ R 600 x = -1) ∧ (S 598 13 = 2 ∧ S 598 14 = 0 ∧ S 598 15 = -1 ∧ S 598 16 = -1) ∧ r2 = -12) ∨ (((0 ≤ x ∧ x ≤ 23) ∧ R 600 x ≠ -1) ∧ ∃ C_ : Int, HE (rf R x) (R 600 x) C_ ∧ RDF (rf R x) (R 600 x) C_ (S 598 13) (S 598 14) (S 598 15) (S 598 16) r2))) (hf : ∀ (a : Nat) (i : Int), a ≠ 598 → a ≠ 603 → a ≠ 604 → a ≠ 605 → S a i = R a i) (hk : ∀ (i : Int), i ≠ 6 → i ≠ 10 → i ≠ 11 → i ≠ 12 → i ≠ 13 → i ≠ 14 → i ≠ 15 → i ≠ 16 → S 598 i = R 598 i) (hS : RI S) : RDA D S ∧ r = r2 := by
  have b13 : -1 ≤ S 598 13 := (hS 598 13 (by decide)).1
  by_cases hx : 0 ≤ x ∧ x ≤ 23
  · have hN := (h.2.1 x (by omega) (by omega)).1
    rw [hN] at p
    rcases p with ⟨p0, p1, p2⟩ | ⟨p0, p1, p2⟩ | ⟨p0, c1, p1, p2⟩ <;> rcases q with ⟨q0, q1, q2⟩ | ⟨q0, q1, q2⟩ | ⟨q0, c2, q1, q2⟩
    · omega
    · omega
    · omega
    · omega
    · refine ⟨⟨((h.1.f f rfl).r (fun i => hf 599 i (by decide) (by decide) (by decide) (by decide)) (hk 1 (by decide) (by decide) (by decide) (by decide) (by decide) (by decide) (by decide) (by decide))), ((h.2.1.f f rfl).r (fun a i _ _ => hf a i (by omega) (by omega) (by omega) (by omega))), ?_, ((h.2.2.2.1.f f rfl).r (fun i => hf 622 i (by decide) (by decide) (by decide) (by decide)) (hk 34 (by decide) (by decide) (by decide) (by decide) (by decide) (by decide) (by decide) (by decide))), ((h.2.2.2.2.1.f f rfl).r (fun a i _ _ => hf a i (by omega) (by omega) (by omega) (by omega))), ((h.2.2.2.2.2.1.f f rfl).r (fun a i _ _ => hf a i (by omega) (by omega) (by omega) (by omega))), ((h.2.2.2.2.2.2.f f rfl).r hG hI (fun a i _ _ => hf a i (by omega) (by omega) (by omega) (by omega)))⟩, by omega⟩
      unfold RDf
      rw [if_neg (by omega)]
      omega
    · exact absurd p0.2 q0.2
    · omega
    · exact absurd q0.2 p0.2
    · have e := HE.u p1 q1
      subst e
      obtain ⟨p3, p4⟩ := p2
      obtain ⟨q3, q4⟩ := q2
      rcases p4 with p4 | p4 <;> rcases q4 with q4 | q4
      · refine ⟨⟨((h.1.f f rfl).r (fun i => hf 599 i (by decide) (by decide) (by decide) (by decide)) (hk 1 (by decide) (by decide) (by decide) (by decide) (by decide) (by decide) (by decide) (by decide))), ((h.2.1.f f rfl).r (fun a i _ _ => hf a i (by omega) (by omega) (by omega) (by omega))), ?_, ((h.2.2.2.1.f f rfl).r (fun i => hf 622 i (by decide) (by decide) (by decide) (by decide)) (hk 34 (by decide) (by decide) (by decide) (by decide) (by decide) (by decide) (by decide) (by decide))), ((h.2.2.2.2.1.f f rfl).r (fun a i _ _ => hf a i (by omega) (by omega) (by omega) (by omega))), ((h.2.2.2.2.2.1.f f rfl).r (fun a i _ _ => hf a i (by omega) (by omega) (by omega) (by omega))), ((h.2.2.2.2.2.2.f f rfl).r hG hI (fun a i _ _ => hf a i (by omega) (by omega) (by omega) (by omega)))⟩, by omega⟩
        unfold RDf
        rw [if_neg (by omega)]
        omega
      · exact absurd p4.1 q4.1
      · exact absurd q4.1 p4.1
      · have nf := hF_n (rf R x) (R 600 x) c1
        refine ⟨⟨((h.1.f f rfl).r (fun i => hf 599 i (by decide) (by decide) (by decide) (by decide)) (hk 1 (by decide) (by decide) (by decide) (by decide) (by decide) (by decide) (by decide) (by decide))), ((h.2.1.f f rfl).r (fun a i _ _ => hf a i (by omega) (by omega) (by omega) (by omega))), ?_, ((h.2.2.2.1.f f rfl).r (fun i => hf 622 i (by decide) (by decide) (by decide) (by decide)) (hk 34 (by decide) (by decide) (by decide) (by decide) (by decide) (by decide) (by decide) (by decide))), ((h.2.2.2.2.1.f f rfl).r (fun a i _ _ => hf a i (by omega) (by omega) (by omega) (by omega))), ((h.2.2.2.2.2.1.f f rfl).r (fun a i _ _ => hf a i (by omega) (by omega) (by omega) (by omega))), ((h.2.2.2.2.2.2.f f rfl).r hG hI (fun a i _ _ => hf a i (by omega) (by omega) (by omega) (by omega)))⟩, by omega⟩
        unfold RDf
        rw [if_neg (by omega)]
        omega
  · rcases p with ⟨p0, p1, p2⟩ | ⟨p0, -⟩ | ⟨p0, -⟩
    · rcases q with ⟨q0, q1, q2⟩ | ⟨q0, -⟩ | ⟨q0, -⟩
      · rw [p2, q2]
        exact ⟨h, by omega⟩
      · exact absurd q0.1 hx
      · exact absurd q0.1 hx
    · exact absurd p0.1 hx
    · exact absurd p0.1 hx
