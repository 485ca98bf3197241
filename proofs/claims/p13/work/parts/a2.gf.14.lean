section
theorem op_restore {C D R S : jm} {r r2 : Int} (h : RDA C R) (hG : RG1 R) (hI : RI R) (hT : C 0 8 = R 598 2) (f : FR W_c_PacketWall_restore_x C D) (hl : D 0 1 = 0) (p : RTQ (ju C 0 1 0) D (C 15 0) (C 15 1) (C 0 1) (C 0 8) r) (q : RS6 R S r2) (hf : ∀ (a : Nat) (i : Int), a ≠ 598 → a ≠ 627 → a ≠ 628 → a ≠ 629 → a ≠ 630 → a ≠ 631 → a ≠ 632 → a ≠ 633 → a ≠ 634 → a ≠ 635 → a ≠ 636 → a ≠ 637 → a ≠ 638 → a ≠ 639 → a ≠ 640 → S a i = R a i) (hk : ∀ (i : Int), i ≠ 1 → S 598 i = R 598 i) : RDA D S ∧ r = r2 := by
  have j1 : ju C 0 1 0 1 = R 599 := (funext (fun i => ju_c _ _ (by decide))).trans h.1.1
  obtain ⟨p1, p2⟩ := p
  obtain ⟨q1, q2, q3⟩ := q
  unfold RTQ at *
  rw [j1, h.1.2] at p1
  have e := RTR.u p1 q1
  have e1 : D 1 = C 1 := funext (fun i => f.g (show kd 1 = 43 from rfl) rfl)
  have e2 : S 599 = R 599 := funext (fun i => hf 599 i (by decide) (by decide) (by decide) (by decide) (by decide) (by decide) (by decide) (by decide) (by decide) (by decide) (by decide) (by decide) (by decide) (by decide) (by decide))
  have hV := h.2.2.2.2.2.1.1
  refine ⟨⟨?_, ((h.2.1.f f rfl).r (fun a i _ _ => hf a i (by omega) (by omega) (by omega) (by omega) (by omega) (by omega) (by omega) (by omega) (by omega) (by omega) (by omega) (by omega) (by omega) (by omega) (by omega))), ((h.2.2.1.f f rfl).r (fun i _ _ => (hk i (by omega)))), ((h.2.2.2.1.f f rfl).r (fun i => hf 622 i (by decide) (by decide) (by decide) (by decide) (by decide) (by decide) (by decide) (by decide) (by decide) (by decide) (by decide) (by decide) (by decide) (by decide) (by decide)) (hk 34 (by decide))), ((h.2.2.2.2.1.f f rfl).r (fun a i _ _ => hf a i (by omega) (by omega) (by omega) (by omega) (by omega) (by omega) (by omega) (by omega) (by omega) (by omega) (by omega) (by omega) (by omega) (by omega) (by omega))), ?_, ((h.2.2.2.2.2.2.f f rfl).r hG hI (fun a i _ _ => hf a i (by omega) (by omega) (by omega) (by omega) (by omega) (by omega) (by omega) (by omega) (by omega) (by omega) (by omega) (by omega) (by omega) (by omega) (by omega)))⟩, e⟩
  · exact ⟨by rw [e1, e2]; exact h.1.1, by rw [hl, q2]⟩
  · rcases p2 with ⟨a0, a1⟩ | ⟨a0, a1, a2, a3⟩ <;> rcases q3 with ⟨b0, b1⟩ | ⟨b0, b1, b2⟩
    · have d : ∀ (b : Nat) (k : Int), ¬ inF (C 15 1) b → (b ≠ 0 ∨ k ≠ 1) → D b k = C b k := fun b k hb h01 => by
        rw [a1 b k hb]
        exact ju_ne _ _ (by omega)
      have n : ∀ i : Int, 0 ≤ i → i < 24 → ∀ b : Nat, xe (C 15 0).toNat i ≤ b → b ≤ xe (C 15 0).toNat i + 7 → ¬ inF (C 15 1) b := fun i i0 i1 b b0 b1 => by
        rintro ⟨j, j0, j1, j2⟩
        have x1 := xfl (V := C 15 0) hV.1 ⟨i0, i1⟩
        have x2 := xfl (V := C 15 1) (by omega) j0
        omega
      have dz0 : D 15 0 = C 15 0 := d 15 0 (inF_n (by omega) (by decide)) (Or.inl (by decide))
      have dz1 : D 15 1 = C 15 1 := d 15 1 (inF_n (by omega) (by decide)) (Or.inl (by decide))
      refine ⟨by rw [dz0, dz1]; exact hV, fun i i0 i1 => ?_⟩
      rw [dz0]
      have w := h.2.2.2.2.2.1.2 i i0 i1
      have x1 := xfl (V := C 15 0) hV.1 ⟨i0, i1⟩
      refine ⟨?_, fun u => ?_⟩
      · rw [d _ 0 (n i i0 i1 _ (by omega) (by omega)) (Or.inl (by omega)), b1 627 i (by decide) (by decide)]
        exact w.1
      · rw [b1 627 i (by decide) (by decide)] at u
        exact ((w.2 u).e (fun j _ => d _ j (n i i0 i1 _ (by omega) (by omega)) (Or.inl (by omega))) (fun d' j d0 d1 => d _ j (n i i0 i1 _ (by omega) (by omega)) (Or.inl (by omega)))).r (fun b hb => b1 b i (by omega) (by omega)) (fun b s b0 b1' _ _ => b1 b _ (by omega) (by omega))
    · omega
    · omega
    · refine ⟨by rw [a1.1, a1.2]; omega, fun i i0 i1 => ?_⟩
      rw [a1.1]
      have t := b2 i i0 i1
      by_cases z : i < r
      · have ok := (a2 i i0 z).1.2
        have rd := (a2 i i0 z).2
        rw [j1, h.1.2] at ok
        rw [j1, hT] at rd
        have r6 := t.1 (by omega)
        refine ⟨by rw [rd.1.1, r6.1], fun _ => rr_fl rd r6.2 ok⟩
      · have l := t.2 (by omega)
        refine ⟨by rw [a3 i (by omega) i1, l], fun u => absurd l u⟩
end
section
/-! ===== both sides answer alike: ends, turn, track ===== -/
theorem HT.y {M : jm} {f : Int → Int} {N C x : Int} (h : HT M f N C) (hx : 0 ≤ x ∧ x < C) : 0 ≤ hY f N x := by
  have q := hst_y h.2.2.2 h.2.2.1.2 x.toNat (fun i i0 i1 => (h.2.1 i i0 (by omega)).1)
  rw [Int.toNat_of_nonneg hx.1] at q
  exact q
/-- the ends that both sides hold -/
noncomputable def EQE (E E6 : jm) : Prop := (E 18 1 = E6 598 59 ∧ E 18 2 = E6 598 60) ∧ (E (18 + 1) 0 = E6 598 61 ∧ E (18 + 1) 1 = E6 598 62) ∧ E (18 + 2) 0 = E6 598 63 ∧ E (18 + 2) 1 = E6 598 64
theorem eqe {E E6 : jm} {f : Int → Int} {N C t h : Int} (a : E2F E f N C t h) (b : EN6 E6 f N C t h) : EQE E E6 := by
  have a0 := a.2 0 (by decide) (by decide)
  have a1 := a.2 1 (by decide) (by decide)
  exact ⟨⟨a.1.1.trans b.1.1.1.symm, a.1.2.trans b.1.1.2.symm⟩, ⟨a0.1.trans b.1.2.1.1.symm, a1.1.trans b.1.2.1.2.symm⟩, a0.2.trans b.1.2.2.1.symm, a1.2.trans b.1.2.2.2.symm⟩
theorem sd_eq {C R : jm} (h : RDw C R) (e : EQE C R) {f : Int} (f0 : 0 ≤ f) (f1 : f < 24) : sdF C (xe (C 15 0).toNat f) 18 = sd6 R f := by
  have w := h.2 f f0 f1
  obtain ⟨e1, e2, e3⟩ := e
  unfold sdF sd6
  by_cases u : R 627 f = 0
  · rw [if_pos (Or.inl (w.1.trans u)), if_pos (Or.inl u)]
  · have fl := w.2 u
    have a := fl.s0
    have b := fl.s1
    have h4 := fl.2.2.2.1
    rw [w.1, fl.1.1, fl.1.2.1, fl.1.2.2.2.2, a.1.1, a.1.2.1, b.1.1, b.1.2.1, e1.1, e1.2, e2.1, e2.2, e3.1, e3.2]
    (repeat' split) <;> omega
theorem fe_eq {C R : jm} (h : RDw C R) (e : EQE C R) : ∀ (n : Nat) (i : Int), 0 ≤ i → i + n ≤ 24 → feF C (C 15 0).toNat n i = fe6 R n i := by
  intro n
  induction n with
  | zero => intro i _ _; rfl
  | succ n ih =>
    intro i i0 i1
    unfold feF fe6
    rw [ih (i + 1) (by omega) (by omega), sd_eq h e i0 (by omega)]
theorem fr_eq {C R : jm} (h : RDw C R) : ∀ (n : Nat) (i : Int), 0 ≤ i → i + n ≤ 24 → frF C (C 15 0).toNat n i = fE6 R n i := by
  intro n
  induction n with
  | zero => intro i _ _; rfl
  | succ n ih =>
    intro i i0 i1
    unfold frF fE6
    rw [ih (i + 1) (by omega) (by omega), (h.2 i i0 (by omega)).1]
theorem RDw.ot {C H E R E6 : jm} (h : RDw C R) (f : FR W_c_Headers_readAll_x C H) (o : OT5 H E) (s : ∀ (b : Nat) (i : Int), 627 ≤ b → b ≤ 642 → E6 b i = R b i) : RDw E E6 ∧ E 15 0 = C 15 0 ∧ E 15 1 = C 15 1 := by
  have h1 := h.f f rfl
  have z0 : H 15 0 = C 15 0 := f.g (show kd 15 = 9 from rfl) rfl
  have z1 : H 15 1 = C 15 1 := f.g (show kd 15 = 9 from rfl) rfl
  have y0 : E 15 0 = H 15 0 := o.2 0 (by decide) (by decide) (by decide)
  have y1 : E 15 1 = H 15 1 := o.2 1 (by decide) (by decide) (by decide)
  exact ⟨(h1.e (fun b k b0 b1 => o.1 b k (by omega) (by omega) (by omega) (by omega)) y0 y1).r s, y0.trans z0, y1.trans z1⟩
theorem RDp.ot {C H E R S : jm} (h : RDp C R) (f : FR W_c_Headers_readAll_x C H) (o : OT5 H E) (s : ∀ (b : Nat) (i : Int), 600 ≤ b → b ≤ 601 → S b i = R b i) : RDp E S := fun p p0 p1 => by
  have a := xpk (g := p) ⟨p0, p1⟩
  have q := ((h.f f rfl).r s) p p0 p1
  refine ⟨?_, fun i i0 i1 => ?_⟩
  · rw [o.1 _ 1 (by omega) (by omega) (by omega) (by omega)]; exact q.1
  · rw [o.1 _ i (by omega) (by omega) (by omega) (by omega)]; exact q.2 i i0 i1
theorem FND.ot {T E : jm} {f : Int → Int} {N C F r : Int} (h : FND T E f N C F r) : OT5 T E := by
  rcases h with h | h
  · exact h.2.2
  · exact h.2.2.1
theorem FND.he {T E : jm} {f : Int → Int} {N C F r : Int} (h : FND T E f N C F r) (hi : F = 0 ↔ hX f N C = -1) : (r = 1 ↔ heG f N C) ∧ (r = 0 ↔ ¬ heG f N C) := by
  rcases h with h | h
  · rw [heG_i hi] at h
    exact ⟨⟨fun u => by omega, fun u => absurd u h.1⟩, ⟨fun _ => h.1, fun _ => h.2.1⟩⟩
  · rw [heG_i hi] at h
    exact ⟨⟨fun _ => h.1, fun _ => h.2.1⟩, ⟨fun u => by omega, fun u => absurd h.1 u⟩⟩
theorem FND.in1 {T E : jm} {f : Int → Int} {N C F : Int} (h : FND T E f N C F 1) : (E 15 3 = ntf f N C ∧ E 15 4 = inf f N C (ntf f N C)) ∧ ((qfF f N C (inf f N C (ntf f N C)) ∧ E 15 5 = 1 ∧ E2F E f N C (inf f N C (ntf f N C) + 1) (inf f N C (ntf f N C) + 2)) ∨ (¬ qfF f N C (inf f N C (ntf f N C)) ∧ E 15 5 = 0 ∧ E2F E f N C (ntf f N C) (inf f N C (ntf f N C)))) := by
  rcases h with h | h
  · exact absurd h.2.1 (by decide)
  · exact h.2.2.2
theorem HE.c0 {f : Int → Int} {N C : Int} (h : HE f N C) : 0 ≤ C := h.1.1
theorem fe6_r (M : jm) : ∀ (n : Nat) (i : Int), 0 ≤ i → fe6 M n i = -1 ∨ ((i ≤ fe6 M n i ∧ fe6 M n i < i + n) ∧ sd6 M (fe6 M n i) ≠ -1) := by
  intro n
  induction n with
  | zero => intro i _; exact Or.inl rfl
  | succ n ih =>
    intro i hi
    unfold fe6
    by_cases h : sd6 M i ≠ -1
    · rw [if_pos h]; exact Or.inr ⟨by omega, h⟩
    · rw [if_neg h]
      rcases ih (i + 1) (by omega) with q | q
      · exact Or.inl q
      · exact Or.inr ⟨by omega, q.2⟩
theorem sd6_r (M : jm) (f : Int) : sd6 M f = -1 ∨ ((M 627 f ≠ 0 ∧ M 629 f = M 598 60) ∧ (sd6 M f = 0 ∨ sd6 M f = 1)) := by
  unfold sd6
  (repeat' split) <;> omega
end
