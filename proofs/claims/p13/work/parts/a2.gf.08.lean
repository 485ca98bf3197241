section
theorem op_feed {C D R S : jm} {r r2 : Int} (h : RDA C R) (hG : RG1 R) (hI : RI R) {x y z u v : Int} (f : FR W_c_PacketWall_feed_f C D) (p : ((C 0 1 + 20 ≤ 1600 ∧ r = C 0 1 + 20 ∧ D 1 = t4 (t4 (t4 (t4 (t4 (C 1) (C 0 1) x) (C 0 1 + 4) y) ((C 0 1 + 4) + 4) z) (((C 0 1 + 4) + 4) + 4) u) ((((C 0 1 + 4) + 4) + 4) + 4) v) ∨ (1600 < C 0 1 + 20 ∧ r = -5 ∧ D 1 = C 1))) (pl : ((C 0 1 + 20 ≤ 1600 ∧ D 0 1 = C 0 1 + 20) ∨ (1600 < C 0 1 + 20 ∧ D 0 1 = C 0 1))) (q : ((R 598 1 + 20 ≤ 1600 ∧ r2 = R 598 1 + 20 ∧ S 599 = t4 (t4 (t4 (t4 (t4 (R 599) (R 598 1) x) (R 598 1 + 4) y) ((R 598 1 + 4) + 4) z) (((R 598 1 + 4) + 4) + 4) u) ((((R 598 1 + 4) + 4) + 4) + 4) v ∧ S 598 1 = R 598 1 + 20) ∨ (1600 < R 598 1 + 20 ∧ r2 = -5 ∧ S 599 = R 599 ∧ S 598 1 = R 598 1))) (hf : ∀ (a : Nat) (i : Int), a ≠ 598 → a ≠ 599 → S a i = R a i) (hk : ∀ (i : Int), i ≠ 1 → S 598 i = R 598 i) : RDA D S ∧ r = r2 := by
  rw [h.1.1, h.1.2] at p
  rw [h.1.2] at pl
  refine ⟨⟨?_, ((h.2.1.f f rfl).r (fun a i _ _ => hf a i (by omega) (by omega))), ((h.2.2.1.f f rfl).r (fun i _ _ => (hk i (by omega)))), ((h.2.2.2.1.f f rfl).r (fun i => hf 622 i (by decide) (by decide)) (hk 34 (by decide))), ((h.2.2.2.2.1.f f rfl).r (fun a i _ _ => hf a i (by omega) (by omega))), ((h.2.2.2.2.2.1.f f rfl).r (fun a i _ _ => hf a i (by omega) (by omega))), ((h.2.2.2.2.2.2.f f rfl).r hG hI (fun a i _ _ => hf a i (by omega) (by omega)))⟩, ?_⟩
  · refine ⟨?_, by omega⟩
    rcases p with p | p <;> rcases q with q | q
    · rw [p.2.2, q.2.2.1]
    · omega
    · omega
    · rw [p.2.2, q.2.2.1]
  · omega
theorem op_end {C D R S : jm} {r r2 : Int} (h : RDA C R) (hG : RG1 R) (hI : RI R) {x : Int} (f : FR W_c_PacketWall_end_x C D) (p : (((0 ≤ x ∧ x ≤ C 0 1) ∧ r = x ∧ D 0 1 = x) ∨ ((x < 0 ∨ C 0 1 < x) ∧ r = -3 ∧ D 0 1 = C 0 1))) (q : (((0 ≤ x ∧ x ≤ R 598 1) ∧ r2 = x ∧ S 598 1 = x) ∨ ((x < 0 ∨ R 598 1 < x) ∧ r2 = -3 ∧ S 598 1 = R 598 1))) (hf : ∀ (a : Nat) (i : Int), a ≠ 598 → S a i = R a i) (hk : ∀ (i : Int), i ≠ 1 → S 598 i = R 598 i) : RDA D S ∧ r = r2 := by
  rw [h.1.2] at p
  have e1 : D 1 = C 1 := funext (fun i => f.g (show kd 1 = 43 from rfl) rfl)
  have e2 : S 599 = R 599 := funext (fun i => hf 599 i (by decide))
  exact ⟨⟨⟨by rw [e1, e2]; exact h.1.1, by omega⟩, ((h.2.1.f f rfl).r (fun a i _ _ => hf a i (by omega))), ((h.2.2.1.f f rfl).r (fun i _ _ => (hk i (by omega)))), ((h.2.2.2.1.f f rfl).r (fun i => hf 622 i (by decide)) (hk 34 (by decide))), ((h.2.2.2.2.1.f f rfl).r (fun a i _ _ => hf a i (by omega))), ((h.2.2.2.2.2.1.f f rfl).r (fun a i _ _ => hf a i (by omega))), ((h.2.2.2.2.2.2.f f rfl).r hG hI (fun a i _ _ => hf a i (by omega)))⟩, by omega⟩
theorem rdp_bytes {C R : jm} (h : RDp C R) {D S : jm} {x : Int} {g g2 : Int → Int} (hx : 0 ≤ x ∧ x < 24) (e1 : ∀ p : Int, 0 ≤ p → p < 24 → D (xe 2 p) 1 = S 600 p) (hb : ∀ i : Int, 0 ≤ i → i < 400 → D (xe 2 x + 1) i = g i) (hs : ∀ i : Int, 0 ≤ i → i < 400 → S 601 (400 * x + i) = g2 i) (hg : ∀ i : Int, 0 ≤ i → i < 400 → g i = g2 i) (ed : ∀ p : Int, 0 ≤ p → p < 24 → p ≠ x → ∀ i : Int, D (xe 2 p + 1) i = C (xe 2 p + 1) i) (es : ∀ j : Int, (j < 400 * x ∨ 400 * x + 400 ≤ j) → S 601 j = R 601 j) : RDp D S := fun p p0 p1 => by
  refine ⟨e1 p p0 p1, fun i i0 i1 => ?_⟩
  by_cases e : p = x
  · subst e
    rw [hb i i0 i1, hs i i0 i1, hg i i0 i1]
  · rw [ed p p0 p1 e, es _ (by omega)]
    exact (h p p0 p1).2 i i0 i1
theorem xpk_ne {p x : Int} (hp : 0 ≤ p ∧ p < 24) (hx : 0 ≤ x ∧ x < 24) (h : p ≠ x) : xe 2 p ≠ xe 2 x ∧ xe 2 p ≠ xe 2 x + 1 ∧ xe 2 p + 1 ≠ xe 2 x ∧ xe 2 p + 1 ≠ xe 2 x + 1 := by
  have a := xpk hp
  have b := xpk hx
  omega
theorem xpk_z {p : Int} (hp : 0 ≤ p ∧ p < 24) : xe 2 p ≠ 0 ∧ xe 2 p + 1 ≠ 0 ∧ xe 2 p ≠ 1 ∧ xe 2 p + 1 ≠ 1 ∧ xe 2 p ≠ xe 2 p + 1 := by
  have a := xpk hp
  omega
theorem op_packet {C D R S : jm} {r r2 : Int} (h : RDA C R) (hG : RG1 R) (hI : RI R) {x : Int} (f : FR W_c_PacketWall_packet_x C D) (p : (((x < 0 ∨ 23 < x ∨ 400 < C 0 1) ∧ r = -3 ∧ D = C) ∨ ((0 ≤ x ∧ x ≤ 23) ∧ C 0 1 ≤ 400 ∧ r = C 0 1 ∧ D = pkm C (xe 2 x) (C 0 1)))) (q : (((x < 0 ∨ 23 < x ∨ 400 < R 598 1) ∧ r2 = -3 ∧ S 598 1 = R 598 1 ∧ S 600 = R 600 ∧ S 601 = R 601) ∨ ((0 ≤ x ∧ x ≤ 23) ∧ R 598 1 ≤ 400 ∧ r2 = R 598 1 ∧ S 598 1 = 0 ∧ S 601 = pk6 (R 601) (R 599) x (R 598 1) ∧ (∀ j : Int, j ≠ x → S 600 j = R 600 j) ∧ S 600 x = R 598 1))) (hf : ∀ (a : Nat) (i : Int), a ≠ 598 → a ≠ 600 → a ≠ 601 → a ≠ 602 → S a i = R a i) (hk : ∀ (i : Int), i ≠ 1 → S 598 i = R 598 i) : RDA D S ∧ r = r2 := by
  have e2 : S 599 = R 599 := funext (fun i => hf 599 i (by decide) (by decide) (by decide) (by decide))
  have e1 : D 1 = C 1 := funext (fun i => f.g (show kd 1 = 43 from rfl) rfl)
  rw [h.1.2] at p
  rcases p with ⟨p0, p1, p2⟩ | ⟨p0, p1, p2, p3⟩ <;> rcases q with ⟨q0, q1, q2, q3, q4⟩ | ⟨q0, q1, q2, q3, q4, q5, q6⟩
  · refine ⟨⟨?_, ?_, ((h.2.2.1.f f rfl).r (fun i _ _ => (hk i (by omega)))), ((h.2.2.2.1.f f rfl).r (fun i => hf 622 i (by decide) (by decide) (by decide) (by decide)) (hk 34 (by decide))), ((h.2.2.2.2.1.f f rfl).r (fun a i _ _ => hf a i (by omega) (by omega) (by omega) (by omega))), ((h.2.2.2.2.2.1.f f rfl).r (fun a i _ _ => hf a i (by omega) (by omega) (by omega) (by omega))), ((h.2.2.2.2.2.2.f f rfl).r hG hI (fun a i _ _ => hf a i (by omega) (by omega) (by omega) (by omega)))⟩, by omega⟩
    · exact ⟨by rw [e1, e2]; exact h.1.1, by rw [p2, q2]; exact h.1.2⟩
    · intro b b0 b1
      rw [p2, q3, q4]
      exact h.2.1 b b0 b1
  · omega
  · omega
  · have z := xpk_z (p := x) ⟨by omega, by omega⟩
    refine ⟨⟨?_, ?_, ((h.2.2.1.f f rfl).r (fun i _ _ => (hk i (by omega)))), ((h.2.2.2.1.f f rfl).r (fun i => hf 622 i (by decide) (by decide) (by decide) (by decide)) (hk 34 (by decide))), ((h.2.2.2.2.1.f f rfl).r (fun a i _ _ => hf a i (by omega) (by omega) (by omega) (by omega))), ((h.2.2.2.2.2.1.f f rfl).r (fun a i _ _ => hf a i (by omega) (by omega) (by omega) (by omega))), ((h.2.2.2.2.2.2.f f rfl).r hG hI (fun a i _ _ => hf a i (by omega) (by omega) (by omega) (by omega)))⟩, by omega⟩
    · refine ⟨by rw [e1, e2]; exact h.1.1, ?_⟩
      rw [q3, p3]
      rfl
    · refine rdp_bytes h.2.1 (x := x) (g := fun k => if 0 ≤ k ∧ k < 0 + R 598 1 then C 1 (0 + (k - 0)) else C (xe 2 x + 1) k) (g2 := fun k => if 0 ≤ k ∧ k < 0 + R 598 1 then R 599 (0 + (k - 0)) else R 601 (400 * x + k)) (by omega) ?_ ?_ ?_ ?_ ?_ ?_
      · intro b b0 b1
        have zb := xpk_z (p := b) ⟨b0, b1⟩
        by_cases e : b = x
        · subst e
          rw [q6, p3]
          unfold pkm
          rw [if_neg (by omega), if_neg (by omega), if_pos ⟨rfl, rfl⟩]
        · have n := xpk_ne (p := b) (x := x) ⟨b0, b1⟩ (by omega) e
          rw [q5 b e, p3]
          unfold pkm
          rw [if_neg (by omega), if_neg (by omega), if_neg (by omega), if_neg (by omega)]
          exact (h.2.1 b b0 b1).1
      · intro i i0 i1
        rw [p3]
        unfold pkm
        rw [if_neg (by omega), if_neg (by omega), if_neg (by omega)]
        by_cases e : 0 ≤ i ∧ i < 0 + R 598 1
        · rw [if_pos ⟨rfl, e⟩]
          exact (if_pos e).symm
        · rw [if_neg (by omega)]
          exact (if_neg e).symm
      · intro i i0 i1
        rw [q4]
        unfold pk6
        by_cases e : 0 ≤ i ∧ i < 0 + R 598 1
        · rw [if_pos (by omega)]
          refine Eq.trans ?_ (if_pos e).symm
          congr 1
          omega
        · rw [if_neg (by omega)]
          exact (if_neg e).symm
      · intro i i0 i1
        show (if 0 ≤ i ∧ i < 0 + R 598 1 then C 1 (0 + (i - 0)) else C (xe 2 x + 1) i) = if 0 ≤ i ∧ i < 0 + R 598 1 then R 599 (0 + (i - 0)) else R 601 (400 * x + i)
        rw [h.1.1, (h.2.1 x (by omega) (by omega)).2 i i0 i1]
      · intro b b0 b1 e i
        have zb := xpk_z (p := b) ⟨b0, b1⟩
        have n := xpk_ne (p := b) (x := x) ⟨b0, b1⟩ (by omega) e
        rw [p3]
        unfold pkm
        rw [if_neg (by omega), if_neg (by omega), if_neg (by omega), if_neg (by omega)]
      · intro j hj
        rw [q4]
        unfold pk6
        rw [if_neg (by omega)]
end
