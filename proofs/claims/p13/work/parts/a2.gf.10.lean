section
theorem op_read {C D R S : jm} {r r2 : Int} (h : RDA C R) (hG : RG1 R) (hI : RI R) {x : Int} (f : FR W_c_PacketWall_read_x C D) (p : (((x < 0 ∨ 23 < x) ∧ r = -3 ∧ D = C) ∨ (((0 ≤ x ∧ x ≤ 23) ∧ C (xe 2 x) 1 = -1) ∧ (D 9 0 = 2 ∧ D 9 1 = 0 ∧ D 9 2 = -1 ∧ D 9 3 = -1) ∧ r = -12) ∨ (((0 ≤ x ∧ x ≤ 23) ∧ C (xe 2 x) 1 ≠ -1) ∧ ∃ C_ : Int, HE (rf R x) (C (xe 2 x) 1) C_ ∧ RDF (rf R x) (C (xe 2 x) 1) C_ (D 9 0) (D 9 1) (D 9 2) (D 9 3) r))) (q : (((x < 0 ∨ 23 < x) ∧ r2 = -3 ∧ S = R) ∨ (((0 ≤ x ∧ x ≤ 23) ∧ R 600 x = -1) ∧ (S 598 13 = 2 ∧ S 598 14 = 0 ∧ S 598 15 = -1 ∧ S 598 16 = -1) ∧ r2 = -12) ∨ (((0 ≤ x ∧ x ≤ 23) ∧ R 600 x ≠ -1) ∧ ∃ C_ : Int, HE (rf R x) (R 600 x) C_ ∧ RDF (rf R x) (R 600 x) C_ (S 598 13) (S 598 14) (S 598 15) (S 598 16) r2))) (hf : ∀ (a : Nat) (i : Int), a ≠ 598 → a ≠ 603 → a ≠ 604 → a ≠ 605 → S a i = R a i) (hk : ∀ (i : Int), i ≠ 6 → i ≠ 10 → i ≠ 11 → i ≠ 12 → i ≠ 13 → i ≠ 14 → i ≠ 15 → i ≠ 16 → S 598 i = R 598 i) (hS : RI S) : RDA D S ∧ r = r2 := by
  have b13 : -1 ≤ S 598 13 := (hS 598 13 (by decide)).1
  by_cases hx : 0 ≤ x ∧ x ≤ 23
  · have hN := (h.2.1 x (by omega) (by omega)).1
    rw [hN] at p
    rcases p with ⟨p0, p1, p2⟩ | ⟨p0, p1, p2⟩ | ⟨p0, c1, p1, p2⟩ <;> rcases q with ⟨q0, q1, q2⟩ | ⟨q0, q1, q2⟩ | ⟨q0, c2, q1, q2⟩
    · omega
    · omega
    · omega
    · omega
    · refine ⟨⟨((h.1.f f rfl).r (fun i => hf 599 i (by decide) (by decide) (by decide) (by decide)) (hk 1 (by decide) (by decide) (by decide) (by decide) (by decide) (by decide) (by decide) (by decide))), ((h.2.1.f f rfl).r (fun a i _ _ => hf a i (by omega) (by omega) (by omega) (by omega))), ?_, ((h.2.2.2.1.f f rfl).r (fun i => hf 622 i (by decide) (by decide) (by decide) (by decide)) (hk 34 (by decide) (by decide) (by decide) (by decide) (by decide) (by decide) (by decide) (by decide))), ((h.2.2.2.2.1.f f rfl).r (fun a i _ _ => hf a i (by omega) (by omega) (by omega) (by omega))), ((h.2.2.2.2.2.1.f f rfl).r (fun a i _ _ => hf a i (by omega) (by omega) (by omega) (by omega))), ((h.2.2.2.2.2.2.f f rfl).r hG hI (fun a i _ _ => hf a i (by omega) (by omega) (by omega) (by omega)))⟩, by omega⟩
      unfold RDf
      rw [if_neg (by omega)]
      omega
    · exact absurd p0.2 q0.2
    · omega
    · exact absurd q0.2 p0.2
    · have e := HE.u p1 q1
      subst e
      obtain ⟨p3, p4⟩ := p2
      obtain ⟨q3, q4⟩ := q2
      rcases p4 with p4 | p4 <;> rcases q4 with q4 | q4
      · refine ⟨⟨((h.1.f f rfl).r (fun i => hf 599 i (by decide) (by decide) (by decide) (by decide)) (hk 1 (by decide) (by decide) (by decide) (by decide) (by decide) (by decide) (by decide) (by decide))), ((h.2.1.f f rfl).r (fun a i _ _ => hf a i (by omega) (by omega) (by omega) (by omega))), ?_, ((h.2.2.2.1.f f rfl).r (fun i => hf 622 i (by decide) (by decide) (by decide) (by decide)) (hk 34 (by decide) (by decide) (by decide) (by decide) (by decide) (by decide) (by decide) (by decide))), ((h.2.2.2.2.1.f f rfl).r (fun a i _ _ => hf a i (by omega) (by omega) (by omega) (by omega))), ((h.2.2.2.2.2.1.f f rfl).r (fun a i _ _ => hf a i (by omega) (by omega) (by omega) (by omega))), ((h.2.2.2.2.2.2.f f rfl).r hG hI (fun a i _ _ => hf a i (by omega) (by omega) (by omega) (by omega)))⟩, by omega⟩
        unfold RDf
        rw [if_neg (by omega)]
        omega
      · exact absurd p4.1 q4.1
      · exact absurd q4.1 p4.1
      · have nf := hF_n (rf R x) (R 600 x) c1
        refine ⟨⟨((h.1.f f rfl).r (fun i => hf 599 i (by decide) (by decide) (by decide) (by decide)) (hk 1 (by decide) (by decide) (by decide) (by decide) (by decide) (by decide) (by decide) (by decide))), ((h.2.1.f f rfl).r (fun a i _ _ => hf a i (by omega) (by omega) (by omega) (by omega))), ?_, ((h.2.2.2.1.f f rfl).r (fun i => hf 622 i (by decide) (by decide) (by decide) (by decide)) (hk 34 (by decide) (by decide) (by decide) (by decide) (by decide) (by decide) (by decide) (by decide))), ((h.2.2.2.2.1.f f rfl).r (fun a i _ _ => hf a i (by omega) (by omega) (by omega) (by omega))), ((h.2.2.2.2.2.1.f f rfl).r (fun a i _ _ => hf a i (by omega) (by omega) (by omega) (by omega))), ((h.2.2.2.2.2.2.f f rfl).r hG hI (fun a i _ _ => hf a i (by omega) (by omega) (by omega) (by omega)))⟩, by omega⟩
        unfold RDf
        rw [if_neg (by omega)]
        omega
  · rcases p with ⟨p0, p1, p2⟩ | ⟨p0, -⟩ | ⟨p0, -⟩
    · rcases q with ⟨q0, q1, q2⟩ | ⟨q0, -⟩ | ⟨q0, -⟩
      · rw [p2, q2]
        exact ⟨h, by omega⟩
      · exact absurd q0.1 hx
      · exact absurd q0.1 hx
    · exact absurd p0.1 hx
    · exact absurd p0.1 hx
end
section
/-! ===== both sides answer alike: flows, pools, tick, export, restore ===== -/
theorem FL.s0 {C R : jm} {t : Nat} {f : Int} (h : FL C R t f) : (C (t + 1) 0 = R 630 (2 * f) ∧ C (t + 2) 0 = R 631 (2 * f) ∧ C (t + 5) 0 = R 635 (2 * f)) ∧ (C (t + 6) 0 = R 636 (2 * f) ∧ C (t + 7) 0 = R 637 (2 * f)) ∧ C (t + 4) 0 = R 632 (2 * f) ∧ C (t + 3) 0 = l6x R (2 * f) := by
  have q := h.2.1 0 (by decide) (by decide)
  simp only [Int.add_zero] at q
  exact q
theorem FL.s1 {C R : jm} {t : Nat} {f : Int} (h : FL C R t f) : (C (t + 1) 1 = R 630 (2 * f + 1) ∧ C (t + 2) 1 = R 631 (2 * f + 1) ∧ C (t + 5) 1 = R 635 (2 * f + 1)) ∧ (C (t + 6) 1 = R 636 (2 * f + 1) ∧ C (t + 7) 1 = R 637 (2 * f + 1)) ∧ C (t + 4) 1 = R 632 (2 * f + 1) ∧ C (t + 3) 1 = l6x R (2 * f + 1) := h.2.1 1 (by decide) (by decide)
theorem fg_eq {C R : jm} {t : Nat} {f w Z : Int} (h : FL C R t f) (hT : Z = R 598 2) : fgF C t w Z = fg6 R f w := by
  have a := h.s0
  have b := h.s1
  have e9 : C t 15 = if R 640 f = -1 then -1 else R 642 f := by
    rcases h.2.2.2.1 with q | q
    · rw [if_pos q.1]; exact q.2
    · rw [if_neg q.1]; exact q.2.2.1
  unfold fgF fg6
  rw [h.1.1, h.1.2.1, h.1.2.2.1, h.1.2.2.2.1, a.1.2.1, b.1.2.1, a.2.2.2, b.2.2.2, a.1.2.2, b.1.2.2, e9, hT]
  rfl
theorem fl_eq {C R : jm} {t : Nat} {f w : Int} (h : FL C R t f) : fgL C t w = fl6 R f w := by
  have a := h.s0
  have b := h.s1
  unfold fgL fl6
  rw [a.1.1, b.1.1, a.2.1.1, b.2.1.1, a.2.1.2, b.2.1.2]
theorem op_flow {C R : jm} {r r2 x y : Int} (h : RDA C R) (hT : C 0 8 = R 598 2) (p : ((x < 0 ∨ 23 < x ∨ C (xe (C 15 0).toNat x) 0 = 0) ∧ r = -2) ∨ (((0 ≤ x ∧ x ≤ 23) ∧ C (xe (C 15 0).toNat x) 0 ≠ 0) ∧ r = fgF C (xe (C 15 0).toNat x) y (C 0 8))) (q : (((x < 0 ∨ 23 < x ∨ R 627 x = 0) ∧ r2 = -2) ∨ (((0 ≤ x ∧ x ≤ 23) ∧ R 627 x ≠ 0) ∧ r2 = fg6 R x y))) : r = r2 := by
  by_cases hx : 0 ≤ x ∧ x ≤ 23
  · have w := h.2.2.2.2.2.1.2 x (by omega) (by omega)
    rw [w.1] at p
    by_cases hu : R 627 x = 0
    · omega
    · rw [fg_eq (w.2 hu) hT] at p
      omega
  · omega
theorem op_flowed {C R : jm} {r r2 x y : Int} (h : RDA C R) (p : ((x < 0 ∨ 23 < x ∨ C (xe (C 15 0).toNat x) 0 = 0) ∧ r = -1) ∨ (((0 ≤ x ∧ x ≤ 23) ∧ C (xe (C 15 0).toNat x) 0 ≠ 0) ∧ r = fgL C (xe (C 15 0).toNat x) y)) (q : (((x < 0 ∨ 23 < x ∨ R 627 x = 0) ∧ r2 = -1) ∨ (((0 ≤ x ∧ x ≤ 23) ∧ R 627 x ≠ 0) ∧ r2 = fl6 R x y))) : r = r2 := by
  by_cases hx : 0 ≤ x ∧ x ≤ 23
  · have w := h.2.2.2.2.2.1.2 x (by omega) (by omega)
    rw [w.1] at p
    by_cases hu : R 627 x = 0
    · omega
    · rw [fl_eq (w.2 hu)] at p
      omega
  · omega
noncomputable def O7 (R S : jm) (x : Int) : Prop := (∀ (b : Nat) (j : Int), j ≠ x → (b = 627 ∨ b = 628 ∨ b = 629 ∨ (638 ≤ b ∧ b ≤ 642)) → S b j = R b j) ∧ ∀ (b : Nat) (j : Int), (j < 2 * x ∨ 2 * x + 2 ≤ j) → (630 ≤ b ∧ b ≤ 637) → S b j = R b j
theorem RDw.one {C D R S : jm} (h : RDw C R) {x : Int} (hx : 0 ≤ x ∧ x < 24) (e0 : D 15 0 = C 15 0) (e1 : D 15 1 = C 15 1) (ed : ∀ (b : Nat) (k : Int), 29 ≤ b → b ≤ 412 → (b < xe (C 15 0).toNat x ∨ xe (C 15 0).toNat x + 7 < b) → D b k = C b k) (es : O7 R S x) (hn : FR1 D S (xe (C 15 0).toNat x) x) : RDw D S := by
  refine ⟨by rw [e0, e1]; exact h.1, fun f f0 f1 => ?_⟩
  rw [e0]
  by_cases e : f = x
  · subst e
    exact hn
  · have a := xfl (V := C 15 0) h.1.1 ⟨f0, f1⟩
    have d := xfl_d h.1.1 hx (k := f) ⟨f0, f1⟩ e
    have q := h.2 f f0 f1
    refine ⟨?_, fun u => ?_⟩
    · rw [ed _ 0 (by omega) (by omega) (by omega), es.1 627 f e (by decide)]
      exact q.1
    · rw [es.1 627 f e (by decide)] at u
      exact ((q.2 u).e (fun j _ => ed _ j (by omega) (by omega) (by omega)) (fun d j d0 d1 => ed _ j (by omega) (by omega) (by omega))).r (fun b hb => es.1 b f e (by omega)) (fun b s b0 b1 s0 s1 => es.2 b _ (by omega) ⟨b0, b1⟩)
theorem pu_eq {C R : jm} (h : RDw C R) (k : Int) : ∀ (n : Nat) (i : Int), 0 ≤ i → i + n ≤ 24 → pu C (C 15 0).toNat k n i = pu6 R k n i := by
  intro n
  induction n with
  | zero => intro i _ _; rfl
  | succ n ih =>
    intro i i0 i1
    have q := h.2 i i0 (by omega)
    unfold pu pu6
    rw [ih (i + 1) (by omega) (by omega), q.1]
    by_cases u : R 627 i = 0
    · rw [if_neg (by omega), if_neg (by omega)]
    · rw [(q.2 u).1.2.2.2.2]
theorem tk_eq {C R : jm} (h : RDw C R) (a o : Int) : ∀ (n : Nat) (i : Int), 0 ≤ i → i + n ≤ 24 → tk C (C 15 0).toNat a o n i = tk6 R a o n i := by
  intro n
  induction n with
  | zero => intro i _ _; rfl
  | succ n ih =>
    intro i i0 i1
    have q := h.2 i i0 (by omega)
    unfold tk tk6
    rw [ih (i + 1) (by omega) (by omega), q.1]
    by_cases u : R 627 i = 0
    · rw [if_neg (by omega), if_neg (by omega)]
    · have w := q.2 u
      rw [w.1.2.2.2.2]
      rcases w.2.2.2.1 with z | z
      · rw [if_neg (by omega), if_neg (by omega)]
      · rw [z.2.1, z.2.2.1]
theorem ch_eq {C R : jm} (h : RDw C R) (a p : Int) : ∀ (n : Nat) (i : Int), chf C (C 15 0).toNat a p n i = ch6 R a p n i := by
  intro n
  induction n with
  | zero => intro i; rfl
  | succ n ih =>
    intro i
    unfold chf ch6
    rw [ih (i + 1), tk_eq h a (p + i) 24 0 (by decide) (by decide)]
end
