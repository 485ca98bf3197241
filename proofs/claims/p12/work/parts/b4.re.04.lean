section
/-! ===== gatherings on both sides ===== -/
theorem gS_p (M : jm) : ∀ (n : Nat) (i : Int), 0 ≤ i → (gS M n i = -1 ∧ ∀ j : Int, i ≤ j → j < i + n → ¬ (M (xe 10 j) 0 ≠ 0 ∧ (M (xe 10 j) 1 = M 11 1 ∧ M (xe 10 j) 2 = M 11 2 ∧ M (xe 10 j) 3 = M 11 3 ∧ M (xe 10 j) 4 = M 11 4 ∧ M (xe 10 j) 5 = M 11 5))) ∨ ((i ≤ gS M n i ∧ gS M n i < i + n) ∧ (M (xe 10 (gS M n i)) 0 ≠ 0 ∧ (M (xe 10 (gS M n i)) 1 = M 11 1 ∧ M (xe 10 (gS M n i)) 2 = M 11 2 ∧ M (xe 10 (gS M n i)) 3 = M 11 3 ∧ M (xe 10 (gS M n i)) 4 = M 11 4 ∧ M (xe 10 (gS M n i)) 5 = M 11 5))) := by
  intro n
  induction n with
  | zero => intro i _; exact Or.inl ⟨rfl, fun j h0 h1 => absurd h1 (by omega)⟩
  | succ n ih =>
    intro i hi
    unfold gS
    by_cases c : (M (xe 10 i) 0 ≠ 0 ∧ (M (xe 10 i) 1 = M 11 1 ∧ M (xe 10 i) 2 = M 11 2 ∧ M (xe 10 i) 3 = M 11 3 ∧ M (xe 10 i) 4 = M 11 4 ∧ M (xe 10 i) 5 = M 11 5))
    · rw [if_pos c]
      exact Or.inr ⟨⟨by omega, by omega⟩, c⟩
    · rw [if_neg c]
      rcases ih (i + 1) (by omega) with ⟨a, b⟩ | ⟨a, b⟩
      · refine Or.inl ⟨a, fun j h0 h1 => ?_⟩
        by_cases e : j = i
        · rw [e]; exact c
        · exact b j (by omega) (by omega)
      · exact Or.inr ⟨⟨by omega, by omega⟩, b⟩
theorem gL_p (M : jm) (k a b c o : Int) : ∀ n : Nat, (gL M k a b c o n = -1 ∧ ∀ j : Int, 0 ≤ j → j < n → ¬ (M 606 j ≠ 0 ∧ M 607 j = k ∧ M 608 j = a ∧ M 609 j = b ∧ M 610 j = c ∧ M 611 j = o)) ∨ ((0 ≤ gL M k a b c o n ∧ gL M k a b c o n < n) ∧ (M 606 (gL M k a b c o n) ≠ 0 ∧ M 607 (gL M k a b c o n) = k ∧ M 608 (gL M k a b c o n) = a ∧ M 609 (gL M k a b c o n) = b ∧ M 610 (gL M k a b c o n) = c ∧ M 611 (gL M k a b c o n) = o)) := by
  intro n
  induction n with
  | zero => exact Or.inl ⟨rfl, fun j h0 h1 => absurd h1 (by omega)⟩
  | succ n ih =>
    unfold gL
    by_cases q : (M 606 (n : Int) ≠ 0 ∧ M 607 (n : Int) = k ∧ M 608 (n : Int) = a ∧ M 609 (n : Int) = b ∧ M 610 (n : Int) = c ∧ M 611 (n : Int) = o)
    · rw [if_pos q]
      exact Or.inr ⟨⟨by omega, by omega⟩, q⟩
    · rw [if_neg q]
      rcases ih with ⟨u, v⟩ | ⟨u, v⟩
      · refine Or.inl ⟨u, fun j h0 h1 => ?_⟩
        by_cases e : j = n
        · rw [e]; exact q
        · exact v j h0 (by omega)
      · exact Or.inr ⟨⟨by omega, by omega⟩, v⟩
/-- the gathering that a piece belongs to -/
theorem ga_s {C R : jm} {k a b c o : Int} (h : RDg C R) (n1 : C 11 1 = k) (n2 : C 11 2 = a) (n3 : C 11 3 = b) (n4 : C 11 4 = c) (n5 : C 11 5 = o) : gS C 8 0 = gL R k a b c o 8 := by
  have e : ∀ j : Int, 0 ≤ j → j < 8 → ((C (xe 10 j) 0 ≠ 0 ∧ (C (xe 10 j) 1 = C 11 1 ∧ C (xe 10 j) 2 = C 11 2 ∧ C (xe 10 j) 3 = C 11 3 ∧ C (xe 10 j) 4 = C 11 4 ∧ C (xe 10 j) 5 = C 11 5)) ↔ (R 606 j ≠ 0 ∧ R 607 j = k ∧ R 608 j = a ∧ R 609 j = b ∧ R 610 j = c ∧ R 611 j = o)) := fun j j0 j1 => by
    have q := h.2 j j0 j1
    rw [q.1, n1, n2, n3, n4, n5]
    by_cases u : R 606 j = 0
    · exact ⟨fun v => absurd u v.1, fun v => absurd u v.1⟩
    · have w := (q.2 u).1
      rw [w.1, w.2.1, w.2.2.1, w.2.2.2.1, w.2.2.2.2.1]
  rcases gS_p C 8 0 (by decide) with ⟨a1, a2⟩ | ⟨a1, a2⟩ <;> rcases gL_p R k a b c o 8 with ⟨b1, b2⟩ | ⟨b1, b2⟩
  · rw [a1, b1]
  · exact absurd ((e _ b1.1 (by omega)).2 b2) (a2 _ b1.1 (by omega))
  · exact absurd ((e _ a1.1 (by omega)).1 a2) (b2 _ a1.1 (by omega))
  · have a3 := (e _ a1.1 (by omega)).1 a2
    refine h.1 _ _ a1.1 (by omega) b1.1 (by omega) a3.1 b2.1 ?_
    rw [a3.2.1, a3.2.2.1, a3.2.2.2.1, a3.2.2.2.2.1, a3.2.2.2.2.2, b2.2.1, b2.2.2.1, b2.2.2.2.1, b2.2.2.2.2.1, b2.2.2.2.2.2]
    exact ⟨rfl, rfl, rfl, rfl, rfl⟩
theorem ga_e {C R : jm} (h : RDg C R) : ∀ (n : Nat) (i : Int), 0 ≤ i → i + n ≤ 8 → gF C n i = gE R n i := by
  intro n
  induction n with
  | zero => intro i _ _; rfl
  | succ n ih =>
    intro i h0 h1
    unfold gF gE
    rw [(h.2 i h0 (by omega)).1, ih (i + 1) (by omega) (by omega)]
theorem gE_r (R : jm) : ∀ (n : Nat) (i : Int), 0 ≤ i → gE R n i = -1 ∨ ((i ≤ gE R n i ∧ gE R n i < i + n) ∧ R 606 (gE R n i) = 0) := by
  intro n
  induction n with
  | zero => intro i _; exact Or.inl rfl
  | succ n ih =>
    intro i hi
    unfold gE
    by_cases c : R 606 i = 0
    · rw [if_pos c]
      exact Or.inr ⟨⟨by omega, by omega⟩, c⟩
    · rw [if_neg c]
      rcases ih (i + 1) (by omega) with a | a
      · exact Or.inl a
      · exact Or.inr ⟨⟨by omega, by omega⟩, a.2⟩
theorem ga_p {C R : jm} (h : RDp C R) : ∀ (n : Nat) (i : Int), 0 ≤ i → i + n ≤ 24 → pF C n i = pG R n i := by
  intro n
  induction n with
  | zero => intro i _ _; rfl
  | succ n ih =>
    intro i h0 h1
    unfold pF pG
    rw [(h i h0 (by omega)).1, ih (i + 1) (by omega) (by omega)]
theorem RDg.n {C D R : jm} (h : RDg C R) (n : NH C D) : RDg D R := by
  refine ⟨h.1, fun g g0 g1 => ?_⟩
  have k := kGa g0 g1
  have x := xgx (g := g) ⟨g0, g1⟩
  have k1 := (kf_15_9 k).2
  have k2 := (kf_15_10 k).2
  have e0 : ∀ i : Int, D (xe 10 g) i = C (xe 10 g) i := fun i => n _ i (by rw [k]; decide) (by omega)
  have e1 : ∀ i : Int, D (xe 10 g + 1) i = C (xe 10 g + 1) i := fun i => n _ i (by rw [k1]; decide) (by omega)
  have e2 : ∀ i : Int, D (xe 10 g + 2) i = C (xe 10 g + 2) i := fun i => n _ i (by rw [k2]; decide) (by omega)
  have q := h.2 g g0 g1
  exact ⟨by rw [e0]; exact q.1, fun u => (q.2 u).e (fun i _ => e0 i) e1 e2⟩
theorem szf_x (w K : Int) : (if szf w ≤ szf K then szf K else szf w) = szf (if K ≤ w then w else K) := by
  unfold szf
  (repeat' split) <;> omega
theorem rbf_n (K : Int) : rbf (-1) K = szf K := by
  unfold rbf szf
  rw [if_neg (by decide)]
theorem rbf_p {w K : Int} (h : w ≠ -1) : rbf w K = w := if_pos h
theorem lpf_p {w : Int} (h : 0 ≤ w ∧ w ≤ 360) : lpf w = w := by
  unfold lpf
  rw [if_neg (by omega), if_pos h.2]
/-- the whole is told, or the row grows -/
theorem ga_w {T Rb Rw : jm} {G : Nat} {g i : Int} {f : Int → Int} {N C h : Int} (hw : Rb 614 g = T G 7) (hs : Rb 613 g = rbf (T G 7) (T G 8)) (hr : T G 7 = -1 ∨ (0 ≤ T G 7 ∧ T G 7 ≤ 360)) (ho : 0 ≤ ofs f N C h) (hc : 1 ≤ N - enf f N C h) (hi : (i = 1 ∧ mrf f N C h ≠ 1 ∧ T G 7 = -1) ∨ (i = 0 ∧ ¬ (mrf f N C h ≠ 1 ∧ T G 7 = -1))) (h3 : mrf f N C h ≠ 1 → T G 7 = -1 → ofs f N C h + (N - enf f N C h) ≤ 360) (W : WH6 Rb Rw g i (ofs f N C h + (N - enf f N C h))) : (Rw 614 g = wh1 f N C h (T G 7) ∧ Rw 613 g = rbf (wh1 f N C h (T G 7)) (cm1 f N C h (T G 8))) ∧ (wh1 f N C h (T G 7) = -1 ∨ (0 ≤ wh1 f N C h (T G 7) ∧ wh1 f N C h (T G 7) ≤ 360)) ∧ lpf (wh1 f N C h (T G 7)) ≤ lpf (T G 7) ∧ (∀ k : Int, 0 ≤ k → k < lpf (wh1 f N C h (T G 7)) → wR Rw g k = wR Rb g k) ∧ (∀ (b : Nat) (j : Int), b ≠ 613 → b ≠ 614 → b ≠ 616 → Rw b j = Rb b j) ∧ (∀ j : Int, j ≠ g → Rw 613 j = Rb 613 j ∧ Rw 614 j = Rb 614 j) ∧ ∀ j : Int, (j < 360 * g ∨ 360 * g + 360 ≤ j) → Rw 616 j = Rb 616 j := by
  rcases hi with ⟨i1, m1, w1⟩ | ⟨i0, n0⟩
  · have l3 := h3 m1 w1
    have e : wh1 f N C h (T G 7) = ofs f N C h + (N - enf f N C h) := if_pos ⟨w1, m1⟩
    rw [e, lpf_p (by omega), rbf_p (by omega)]
    rcases W with ⟨-, a1, a2, a3, a4⟩ | ⟨u, -⟩ | ⟨u, -⟩
    · refine ⟨a1, Or.inr (by omega), ?_, fun k k0 k1 => ?_, fun b j h1 h2 h3 => a4 b j h1 h2 h3, fun j hj => ⟨(a2 j hj).2, (a2 j hj).1⟩, fun j hj => a3 j (by omega)⟩
      · rw [w1]
        unfold lpf
        rw [if_pos rfl]
        exact l3
      · unfold wR
        rw [a4 615 _ (by decide) (by decide) (by decide), a3 _ (by omega)]
    · omega
    · omega
  · have e : wh1 f N C h (T G 7) = T G 7 := if_neg (fun u => n0 ⟨u.2, u.1⟩)
    rw [e]
    rcases W with ⟨u, -⟩ | ⟨-, a1, a2, a3, a4⟩ | ⟨-, a1, a2⟩
    · omega
    · rw [hw] at a1
      rw [hs, a1, rbf_n, szf_x] at a2
      refine ⟨⟨(a4 614 g (by decide)).trans hw, ?_⟩, hr, Int.le_refl _, fun k k0 k1 => ?_, fun b j h1 _ _ => a4 b j h1, fun j hj => ⟨a3 j hj, a4 614 j (by decide)⟩, fun j _ => a4 616 j (by decide)⟩
      · rw [a2, a1, rbf_n]
        rfl
      · unfold wR
        rw [a4 615 _ (by decide), a4 616 _ (by decide)]
    · subst a2
      rw [hw] at a1
      refine ⟨⟨hw, ?_⟩, hr, Int.le_refl _, fun _ _ _ => rfl, fun _ _ _ _ _ => rfl, fun _ _ => ⟨rfl, rfl⟩, fun _ _ => rfl⟩
      rw [hs, rbf_p a1, rbf_p a1]
theorem glay_e {w v f f2 : Int → Int} {s e m k : Int} (h : w k = v k) (hf : f = f2) : glay w f s e m k = glay v f2 s e m k := by
  unfold glay
  rw [h, hf]
theorem gov_e {w v : Int → Int} {s : Int} : ∀ n : Nat, (∀ k : Int, s ≤ k → k < s + n → w k = v k) → gov w s n = gov v s n := by
  intro n
  induction n with
  | zero => intro _; rfl
  | succ n ih =>
    intro h
    unfold gov
    rw [ih (fun k h0 h1 => h k h0 (by omega)), h (s + n) (by omega) (by omega)]
theorem mlf_l {D s L : Int} (hD : 0 ≤ D) : 0 ≤ mlf D s L ∧ (mlf D s L ≠ 0 → s + mlf D s L ≤ L) := by
  unfold mlf
  (repeat' split) <;> omega
theorem rdy_c {w v : Int → Int} : ∀ (n : Nat) (i : Int), (∀ k : Int, i ≤ k → k < i + n → w k = v k) → rdy w n i = rdy v n i := by
  intro n
  induction n with
  | zero => intro i _; rfl
  | succ n ih =>
    intro i h
    unfold rdy
    rw [h i (by omega) (by omega), ih (i + 1) (fun k h0 h1 => h k (by omega) (by omega))]
theorem rdy_a {w : Int → Int} : ∀ (n : Nat) (i : Int), rdy w n i ≠ 0 → ∀ k : Int, i ≤ k → k < i + n → w k ≠ -1 := by
  intro n
  induction n with
  | zero => intro i _ k h0 h1; omega
  | succ n ih =>
    intro i h k h0 h1
    unfold rdy at h
    by_cases c : w i = -1
    · rw [if_pos c] at h
      exact absurd rfl h
    · rw [if_neg c] at h
      by_cases e : k = i
      · rw [e]; exact c
      · exact ih (i + 1) h k (by omega) (by omega)
end
