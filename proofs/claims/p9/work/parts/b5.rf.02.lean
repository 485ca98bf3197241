section
/-! ===== gatherings on both sides ===== -/
theorem gS_p (M : jm) : ∀ (n : Nat) (i : Int), 0 ≤ i → (gS M n i = -1 ∧ ∀ j : Int, i ≤ j → j < i + n → ¬ (M (xe 10 j) 0 ≠ 0 ∧ (M (xe 10 j) 1 = M 11 1 ∧ M (xe 10 j) 2 = M 11 2 ∧ M (xe 10 j) 3 = M 11 3 ∧ M (xe 10 j) 4 = M 11 4 ∧ M (xe 10 j) 5 = M 11 5))) ∨ ((i ≤ gS M n i ∧ gS M n i < i + n) ∧ (M (xe 10 (gS M n i)) 0 ≠ 0 ∧ (M (xe 10 (gS M n i)) 1 = M 11 1 ∧ M (xe 10 (gS M n i)) 2 = M 11 2 ∧ M (xe 10 (gS M n i)) 3 = M 11 3 ∧ M (xe 10 (gS M n i)) 4 = M 11 4 ∧ M (xe 10 (gS M n i)) 5 = M 11 5))) := by
  intro n
  induction n with
  | zero => intro i _; exact Or.inl ⟨rfl, fun j h0 h1 => absurd h1 (by omega)⟩
  | succ n ih =>
    intro i hi
    unfold gS
    by_cases c : (M (xe 10 i) 0 ≠ 0 ∧ (M (xe 10 i) 1 = M 11 1 ∧ M (xe 10 i) 2 = M 11 2 ∧ M (xe 10 i) 3 = M 11 3 ∧ M (xe 10 i) 4 = M 11 4 ∧ M (xe 10 i) 5 = M 11 5))
    · rw [if_pos c]
      exact Or.inr ⟨⟨by omega, by omega⟩, c⟩
    · rw [if_neg c]
      rcases ih (i + 1) (by omega) with ⟨a, b⟩ | ⟨a, b⟩
      · refine Or.inl ⟨a, fun j h0 h1 => ?_⟩
        by_cases e : j = i
        · rw [e]; exact c
        · exact b j (by omega) (by omega)
      · exact Or.inr ⟨⟨by omega, by omega⟩, b⟩
theorem gL_p (M : jm) (k a b c o : Int) : ∀ n : Nat, (gL M k a b c o n = -1 ∧ ∀ j : Int, 0 ≤ j → j < n → ¬ (M 606 j ≠ 0 ∧ M 607 j = k ∧ M 608 j = a ∧ M 609 j = b ∧ M 610 j = c ∧ M 611 j = o)) ∨ ((0 ≤ gL M k a b c o n ∧ gL M k a b c o n < n) ∧ (M 606 (gL M k a b c o n) ≠ 0 ∧ M 607 (gL M k a b c o n) = k ∧ M 608 (gL M k a b c o n) = a ∧ M 609 (gL M k a b c o n) = b ∧ M 610 (gL M k a b c o n) = c ∧ M 611 (gL M k a b c o n) = o)) := by
  intro n
  induction n with
  | zero => exact Or.inl ⟨rfl, fun j h0 h1 => absurd h1 (by omega)⟩
  | succ n ih =>
    unfold gL
    by_cases q : (M 606 (n : Int) ≠ 0 ∧ M 607 (n : Int) = k ∧ M 608 (n : Int) = a ∧ M 609 (n : Int) = b ∧ M 610 (n : Int) = c ∧ M 611 (n : Int) = o)
    · rw [if_pos q]
      exact Or.inr ⟨⟨by omega, by omega⟩, q⟩
    · rw [if_neg q]
      rcases ih with ⟨u, v⟩ | ⟨u, v⟩
      · refine Or.inl ⟨u, fun j h0 h1 => ?_⟩
        by_cases e : j = n
        · rw [e]; exact q
        · exact v j h0 (by omega)
      · exact Or.inr ⟨⟨by omega, by omega⟩, v⟩
/-- the gathering that a piece belongs to -/
theorem ga_s {C R : jm} {k a b c o : Int} (h : RDg C R) (n1 : C 11 1 = k) (n2 : C 11 2 = a) (n3 : C 11 3 = b) (n4 : C 11 4 = c) (n5 : C 11 5 = o) : gS C 8 0 = gL R k a b c o 8 := by
  have e : ∀ j : Int, 0 ≤ j → j < 8 → ((C (xe 10 j) 0 ≠ 0 ∧ (C (xe 10 j) 1 = C 11 1 ∧ C (xe 10 j) 2 = C 11 2 ∧ C (xe 10 j) 3 = C 11 3 ∧ C (xe 10 j) 4 = C 11 4 ∧ C (xe 10 j) 5 = C 11 5)) ↔ (R 606 j ≠ 0 ∧ R 607 j = k ∧ R 608 j = a ∧ R 609 j = b ∧ R 610 j = c ∧ R 611 j = o)) := fun j j0 j1 => by
    have q := h.2 j j0 j1
    rw [q.1, n1, n2, n3, n4, n5]
    by_cases u : R 606 j = 0
    · exact ⟨fun v => absurd u v.1, fun v => absurd u v.1⟩
    · have w := (q.2 u).1
      rw [w.1, w.2.1, w.2.2.1, w.2.2.2.1, w.2.2.2.2.1]
  rcases gS_p C 8 0 (by decide) with ⟨a1, a2⟩ | ⟨a1, a2⟩ <;> rcases gL_p R k a b c o 8 with ⟨b1, b2⟩ | ⟨b1, b2⟩
  · rw [a1, b1]
  · exact absurd ((e _ b1.1 (by omega)).2 b2) (a2 _ b1.1 (by omega))
  · exact absurd ((e _ a1.1 (by omega)).1 a2) (b2 _ a1.1 (by omega))
  · have a3 := (e _ a1.1 (by omega)).1 a2
    refine h.1 _ _ a1.1 (by omega) b1.1 (by omega) a3.1 b2.1 ?_
    rw [a3.2.1, a3.2.2.1, a3.2.2.2.1, a3.2.2.2.2.1, a3.2.2.2.2.2, b2.2.1, b2.2.2.1, b2.2.2.2.1, b2.2.2.2.2.1, b2.2.2.2.2.2]
    exact ⟨rfl, rfl, rfl, rfl, rfl⟩
theorem ga_e {C R : jm} (h : RDg C R) : ∀ (n : Nat) (i : Int), 0 ≤ i → i + n ≤ 8 → gF C n i = gE R n i := by
  intro n
  induction n with
  | zero => intro i _ _; rfl
  | succ n ih =>
    intro i h0 h1
    unfold gF gE
    rw [(h.2 i h0 (by omega)).1, ih (i + 1) (by omega) (by omega)]
theorem gE_r (R : jm) : ∀ (n : Nat) (i : Int), 0 ≤ i → gE R n i = -1 ∨ ((i ≤ gE R n i ∧ gE R n i < i + n) ∧ R 606 (gE R n i) = 0) := by
  intro n
  induction n with
  | zero => intro i _; exact Or.inl rfl
  | succ n ih =>
    intro i hi
    unfold gE
    by_cases c : R 606 i = 0
    · rw [if_pos c]
      exact Or.inr ⟨⟨by omega, by omega⟩, c⟩
    · rw [if_neg c]
      rcases ih (i + 1) (by omega) with a | a
      · exact Or.inl a
      · exact Or.inr ⟨⟨by omega, by omega⟩, a.2⟩
theorem ga_p {C R : jm} (h : RDp C R) : ∀ (n : Nat) (i : Int), 0 ≤ i → i + n ≤ 24 → pF C n i = pG R n i := by
  intro n
  induction n with
  | zero => intro i _ _; rfl
  | succ n ih =>
    intro i h0 h1
    unfold pF pG
    rw [(h i h0 (by omega)).1, ih (i + 1) (by omega) (by omega)]
theorem RDg.n {C D R : jm} (h : RDg C R) (n : NH C D) : RDg D R := by
  refine ⟨h.1, fun g g0 g1 => ?_⟩
  have k := kGa g0 g1
  have x := xgx (g := g) ⟨g0, g1⟩
  have k1 := (kf_15_9 k).2
  have k2 := (kf_15_10 k).2
  have e0 : ∀ i : Int, D (xe 10 g) i = C (xe 10 g) i := fun i => n _ i (by rw [k]; decide) (by omega)
  have e1 : ∀ i : Int, D (xe 10 g + 1) i = C (xe 10 g + 1) i := fun i => n _ i (by rw [k1]; decide) (by omega)
  have e2 : ∀ i : Int, D (xe 10 g + 2) i = C (xe 10 g + 2) i := fun i => n _ i (by rw [k2]; decide) (by omega)
  have q := h.2 g g0 g1
  exact ⟨by rw [e0]; exact q.1, fun u => (q.2 u).e (fun i _ => e0 i) e1 e2⟩
theorem szf_x (w K : Int) : (if szf w ≤ szf K then szf K else szf w) = szf (if K ≤ w then w else K) := by
  unfold szf
  (repeat' split) <;> omega
theorem rbf_n (K : Int) : rbf (-1) K = szf K := by
  unfold rbf szf
  rw [if_neg (by decide)]
theorem rbf_p {w K : Int} (h : w ≠ -1) : rbf w K = w := if_pos h
theorem lpf_p {w : Int} (h : 0 ≤ w ∧ w ≤ 360) : lpf w = w := by
  unfold lpf
  rw [if_neg (by omega), if_pos h.2]
/-- the whole is told, or the row grows -/
theorem ga_w {T Rb Rw : jm} {G : Nat} {g i : Int} {f : Int → Int} {N C h : Int} (hw : Rb 614 g = T G 7) (hs : Rb 613 g = rbf (T G 7) (T G 8)) (hr : T G 7 = -1 ∨ (0 ≤ T G 7 ∧ T G 7 ≤ 360)) (ho : 0 ≤ ofs f N C h) (hc : 1 ≤ N - enf f N C h) (hi : (i = 1 ∧ mrf f N C h ≠ 1 ∧ T G 7 = -1) ∨ (i = 0 ∧ ¬ (mrf f N C h ≠ 1 ∧ T G 7 = -1))) (h3 : mrf f N C h ≠ 1 → T G 7 = -1 → ofs f N C h + (N - enf f N C h) ≤ 360) (W : WH6 Rb Rw g i (ofs f N C h + (N - enf f N C h))) : (Rw 614 g = wh1 f N C h (T G 7) ∧ Rw 613 g = rbf (wh1 f N C h (T G 7)) (cm1 f N C h (T G 8))) ∧ (wh1 f N C h (T G 7) = -1 ∨ (0 ≤ wh1 f N C h (T G 7) ∧ wh1 f N C h (T G 7) ≤ 360)) ∧ lpf (wh1 f N C h (T G 7)) ≤ lpf (T G 7) ∧ (∀ k : Int, 0 ≤ k → k < lpf (wh1 f N C h (T G 7)) → wR Rw g k = wR Rb g k) ∧ (∀ (b : Nat) (j : Int), b ≠ 613 → b ≠ 614 → b ≠ 616 → Rw b j = Rb b j) ∧ (∀ j : Int, j ≠ g → Rw 613 j = Rb 613 j ∧ Rw 614 j = Rb 614 j) ∧ ∀ j : Int, (j < 360 * g ∨ 360 * g + 360 ≤ j) → Rw 616 j = Rb 616 j := by
  rcases hi with ⟨i1, m1, w1⟩ | ⟨i0, n0⟩
  · have l3 := h3 m1 w1
    have e : wh1 f N C h (T G 7) = ofs f N C h + (N - enf f N C h) := if_pos ⟨w1, m1⟩
    rw [e, lpf_p (by omega), rbf_p (by omega)]
    rcases W with ⟨-, a1, a2, a3, a4⟩ | ⟨u, -⟩ | ⟨u, -⟩
    · refine ⟨a1, Or.inr (by omega), ?_, fun k k0 k1 => ?_, fun b j h1 h2 h3 => a4 b j h1 h2 h3, fun j hj => ⟨(a2 j hj).2, (a2 j hj).1⟩, fun j hj => a3 j (by omega)⟩
      · rw [w1]
        unfold lpf
        rw [if_pos rfl]
        exact l3
      · unfold wR
        rw [a4 615 _ (by decide) (by decide) (by decide), a3 _ (by omega)]
    · omega
    · omega
  · have e : wh1 f N C h (T G 7) = T G 7 := if_neg (fun u => n0 ⟨u.2, u.1⟩)
    rw [e]
    rcases W with ⟨u, -⟩ | ⟨-, a1, a2, a3, a4⟩ | ⟨-, a1, a2⟩
    · omega
    · rw [hw] at a1
      rw [hs, a1, rbf_n, szf_x] at a2
      refine ⟨⟨(a4 614 g (by decide)).trans hw, ?_⟩, hr, Int.le_refl _, fun k k0 k1 => ?_, fun b j h1 _ _ => a4 b j h1, fun j hj => ⟨a3 j hj, a4 614 j (by decide)⟩, fun j _ => a4 616 j (by decide)⟩
      · rw [a2, a1, rbf_n]
        rfl
      · unfold wR
        rw [a4 615 _ (by decide), a4 616 _ (by decide)]
    · subst a2
      rw [hw] at a1
      refine ⟨⟨hw, ?_⟩, hr, Int.le_refl _, fun _ _ _ => rfl, fun _ _ _ _ _ => rfl, fun _ _ => ⟨rfl, rfl⟩, fun _ _ => rfl⟩
      rw [hs, rbf_p a1, rbf_p a1]
theorem glay_e {w v f f2 : Int → Int} {s e m k : Int} (h : w k = v k) (hf : f = f2) : glay w f s e m k = glay v f2 s e m k := by
  unfold glay
  rw [h, hf]
theorem gov_e {w v : Int → Int} {s : Int} : ∀ n : Nat, (∀ k : Int, s ≤ k → k < s + n → w k = v k) → gov w s n = gov v s n := by
  intro n
  induction n with
  | zero => intro _; rfl
  | succ n ih =>
    intro h
    unfold gov
    rw [ih (fun k h0 h1 => h k h0 (by omega)), h (s + n) (by omega) (by omega)]
theorem mlf_l {D s L : Int} (hD : 0 ≤ D) : 0 ≤ mlf D s L ∧ (mlf D s L ≠ 0 → s + mlf D s L ≤ L) := by
  unfold mlf
  (repeat' split) <;> omega
theorem rdy_c {w v : Int → Int} : ∀ (n : Nat) (i : Int), (∀ k : Int, i ≤ k → k < i + n → w k = v k) → rdy w n i = rdy v n i := by
  intro n
  induction n with
  | zero => intro i _; rfl
  | succ n ih =>
    intro i h
    unfold rdy
    rw [h i (by omega) (by omega), ih (i + 1) (fun k h0 h1 => h k (by omega) (by omega))]
theorem rdy_a {w : Int → Int} : ∀ (n : Nat) (i : Int), rdy w n i ≠ 0 → ∀ k : Int, i ≤ k → k < i + n → w k ≠ -1 := by
  intro n
  induction n with
  | zero => intro i _ k h0 h1; omega
  | succ n ih =>
    intro i h k h0 h1
    unfold rdy at h
    by_cases c : w i = -1
    · rw [if_pos c] at h
      exact absurd rfl h
    · rw [if_neg c] at h
      by_cases e : k = i
      · rw [e]; exact c
      · exact ih (i + 1) h k (by omega) (by omega)
/-- a piece is taken -/
theorem ga_t {T M Rb Rw Rl R5 : jm} {G : Nat} {g i x h t : Int} {f : Int → Int} {N C : Int} (hg : 0 ≤ g) (L : GL T Rb G g) (h0 : 0 ≤ h ∧ h < C) (ho : 0 ≤ ofs f N C h) (hc : 1 ≤ N - enf f N C h) (hi : (i = 1 ∧ mrf f N C h ≠ 1 ∧ T G 7 = -1) ∨ (i = 0 ∧ ¬ (mrf f N C h ≠ 1 ∧ T G 7 = -1))) (h3 : mrf f N C h ≠ 1 → T G 7 = -1 → ofs f N C h + (N - enf f N C h) ≤ 360) (W : WH6 Rb Rw g i (ofs f N C h + (N - enf f N C h))) (Y : LY6 Rw Rl g x (enf f N C h) (N - enf f N C h) (ofs f N C h)) (K : (ofs f N C h = 0 ∧ Rl 617 g = -1 ∧ KH6 Rl R5 g x h t) ∨ (¬ (ofs f N C h = 0 ∧ Rl 617 g = -1) ∧ R5 = Rl)) (hf : rf Rb x = f) (hb : ∀ i : Int, 0 ≤ f i ∧ f i ≤ 255) (hn : N ≤ 400)
  (kk : Rb 607 g = hX f N h) (k5 : Rb 611 g = vA f N C h (if kA f N C h = 2 then 7 else 0)) (tt : t = ntf f N C ∧ (0 ≤ t ∧ t < C)) (hk : (hX f N h = 2 ∧ t = h) ∨ hX f N h = 6) (hd : ∀ j : Int, 0 ≤ j → j < C → Rb 603 j = hX f N j ∧ Rb 604 j = hY f N j ∧ Rb 605 j = hZ f N j ∧ 0 ≤ hY f N j ∧ hY f N j + hZ f N j ≤ N ∧ 0 ≤ hZ f N j ∧ (hX f N j = 2 → 20 ≤ hZ f N j) ∧ (hX f N j = 6 → 8 ≤ hZ f N j)) (tk : TKI T M G f N C h) : GL M R5 G g ∧ RDl M R5 ∧ (∀ (b : Nat) (j : Int), b ≠ 615 → b ≠ 616 → b ≠ 618 → b ≠ 598 → b ≠ 622 → j ≠ g → R5 b j = Rb b j) ∧ (∀ j : Int, (j < 360 * g ∨ 360 * g + 360 ≤ j) → R5 615 j = Rb 615 j ∧ R5 616 j = Rb 616 j) ∧ (∀ j : Int, (j < 400 * g ∨ 400 * g + 400 ≤ j) → R5 618 j = Rb 618 j) ∧ (∀ (b : Nat) (j : Int), b < 613 → b ≠ 598 → R5 b j = Rb b j) := by
  obtain ⟨⟨l1, l1', l1'', l1a, l1b, l1c⟩, l2, ⟨l3, l3', l3''⟩, l4, l5, l6⟩ := L
  obtain ⟨⟨w1, w2⟩, w3, w4, w5, w6, w7, w8⟩ := ga_w l3.symm l3' l3'' ho hc hi h3 W
  obtain ⟨⟨⟨t1, t2⟩, t3, t4, t5⟩, t6, t7, t8, t9, ta, tb⟩ := tk
  obtain ⟨⟨⟨y1, y2⟩, y3, y4, y5, y6, y7, y8⟩, y9, ya⟩ := Y
  have ef : rf Rw x = f := (rf_e (fun i => w6 601 i (by decide) (by decide) (by decide))).trans hf
  have lm := lpf_m (wh1 f N C h (T G 7))
  have ml := mlf_l (D := N - enf f N C h) (s := ofs f N C h) (L := lpf (wh1 f N C h (T G 7))) (by omega)
  rw [w1] at y1 y4 y5 y6 y8
  have rows : ∀ k : Int, 0 ≤ k → k < lpf (wh1 f N C h (T G 7)) → T (G + 1) k = wR Rw g k := fun k k0 k1 => by rw [w5 k k0 k1]; exact l4 k k0 (by omega)
  have govs : gov (T (G + 1)) (ofs f N C h) (mlf (N - enf f N C h) (ofs f N C h) (lpf (wh1 f N C h (T G 7)))).toNat = gov (wR Rw g) (ofs f N C h) (mlf (N - enf f N C h) (ofs f N C h) (lpf (wh1 f N C h (T G 7)))).toNat := gov_e _ (fun k k0 k1 => rows k (by omega) (by omega))
  -- the reference's cells, from Rb to R5
  have K2 : (∀ (b : Nat) (i : Int), b ≠ 617 → b ≠ 618 → b ≠ 619 → b ≠ 620 → b ≠ 621 → R5 b i = Rl b i) ∧ (∀ (b : Nat) (j : Int), b ≠ 618 → j ≠ g → R5 b j = Rl b j) ∧ (∀ j : Int, (j < 400 * g ∨ 400 * g + 400 ≤ j) → R5 618 j = Rl 618 j) := by
    rcases K with ⟨-, -, ⟨-, -, k3, k4⟩, k5⟩ | ⟨-, k⟩
    · exact ⟨k5, k3, k4⟩
    · rw [k]
      exact ⟨fun _ _ _ _ _ _ _ => rfl, fun _ _ _ _ => rfl, fun _ _ => rfl⟩
  have lo : ∀ (b : Nat) (j : Int), b < 613 → b ≠ 598 → R5 b j = Rb b j := fun b j h1 h2 => (K2.1 b j (by omega) (by omega) (by omega) (by omega) (by omega)).trans ((y9 b j h2 (by omega) (by omega) (by omega)).trans (w6 b j (by omega) (by omega) (by omega)))
  have up : ∀ (b : Nat) (j : Int), 616 < b → b ≠ 622 → Rl b j = Rb b j := fun b j h1 h2 => (y9 b j (by omega) (by omega) (by omega) h2).trans (w6 b j (by omega) (by omega) (by omega))
  have lw : ∀ (b : Nat) (j : Int), b < 613 → b ≠ 598 → Rl b j = Rb b j := fun b j h1 h2 => (y9 b j h2 (by omega) (by omega) (by omega)).trans (w6 b j (by omega) (by omega) (by omega))
  have l7 : Rl 617 g = T G 11 := (up 617 g (by decide) (by decide)).trans l5.symm
  refine ⟨⟨⟨?_, ?_, ?_, ?_, ?_, ?_⟩, ?_, ⟨?_, ?_, ?_⟩, fun k k0 k1 => ?_, ?_, fun u => ?_⟩, fun k k0 k1 => ?_, fun b j h1 h2 h3 h4 h5 hj => ?_, fun j hj => ⟨?_, ?_⟩, fun j hj => ?_, lo⟩
  · rw [t3 1 (by decide) (by decide) (by decide) (by decide) (by decide), lo 607 g (by decide) (by decide)]; exact l1
  · rw [t3 2 (by decide) (by decide) (by decide) (by decide) (by decide), lo 608 g (by decide) (by decide)]; exact l1'
  · rw [t3 3 (by decide) (by decide) (by decide) (by decide) (by decide), lo 609 g (by decide) (by decide)]; exact l1''
  · rw [t3 4 (by decide) (by decide) (by decide) (by decide) (by decide), lo 610 g (by decide) (by decide)]; exact l1a
  · rw [t3 5 (by decide) (by decide) (by decide) (by decide) (by decide), lo 611 g (by decide) (by decide)]; exact l1b
  · rw [t3 6 (by decide) (by decide) (by decide) (by decide) (by decide), lo 612 g (by decide) (by decide)]; exact l1c
  · rw [lo 607 g (by decide) (by decide)]; exact l2
  · rw [t1, K2.1 614 g (by decide) (by decide) (by decide) (by decide) (by decide), y9 614 g (by decide) (by decide) (by decide) (by decide), w1]
  · rw [t1, t2, K2.1 613 g (by decide) (by decide) (by decide) (by decide) (by decide), y9 613 g (by decide) (by decide) (by decide) (by decide), w2]
  · rw [t1]; exact w3
  · rw [t1] at k1
    have e : wR R5 g k = wR Rl g k := wR_e (fun k _ _ => ⟨K2.1 615 _ (by decide) (by decide) (by decide) (by decide) (by decide), K2.1 616 _ (by decide) (by decide) (by decide) (by decide) (by decide)⟩) k0 (by omega)
    rw [e, t6 k k0 (by omega), y1 k k0 (by omega)]
    exact glay_e (rows k k0 k1) ef.symm
  · rcases K with ⟨c1, c2, ⟨⟨q1, -⟩, -⟩, -⟩ | ⟨c1, c2⟩
    · rw [l7] at c2
      rcases t4 with ⟨-, -, t4, -⟩ | ⟨t4, -⟩
      · rw [t4.1, q1, lw 604 h (by decide) (by decide), lw 605 h (by decide) (by decide), enf_i h0, (hd h h0.1 h0.2).2.1, (hd h h0.1 h0.2).2.2.1]
      · exact absurd ⟨c1, c2⟩ t4
    · rw [l7] at c1
      rcases t4 with ⟨u1, u2, -⟩ | ⟨-, t4, -⟩
      · exact absurd ⟨u1, u2⟩ c1
      · rw [t4.1, c2, l7]
  · rcases K with ⟨c1, c2, ⟨⟨q1, q2, q3, q4⟩, q5, -, -⟩, -⟩ | ⟨c1, c2⟩
    · rw [l7] at c2
      have hh := hd h h0.1 h0.2
      have ht := hd t tt.2.1 tt.2.2
      rw [lw 604 h (by decide) (by decide), lw 605 h (by decide) (by decide), hh.2.1, hh.2.2.1] at q1 q5
      rw [lw 604 h (by decide) (by decide), hh.2.1] at q2
      rw [lw 604 t (by decide) (by decide), ht.2.1] at q3
      have el : rf Rl x = f := (rf_e (fun i => lw 601 i (by decide) (by decide))).trans hf
      rw [el] at q5
      rcases t4 with ⟨-, -, ⟨v1, v2, v3⟩, v4⟩ | ⟨t4, -⟩
      · rw [enf_i h0] at v4
        rw [q1, q2, q3, lo 607 g (by decide) (by decide), lo 611 g (by decide) (by decide), kk]
        refine ⟨fun k k0 k1 => by rw [v4 k k0 k1, q5 k k0 k1], ?_, fun u6 => ⟨?_, ?_⟩, fun u2 => ?_⟩
        · rw [v2, ← tt.1]
          unfold pA
          rw [if_pos tt.2]
        · rw [l1, kk] at v3
          have v5 : M G 13 = pA f N C (h - 1) + (if kA f N C (h - 1) = 3 then 4 else 0) := by
            rcases v3 with v | v
            · exact v.2
            · exact absurd u6 v.1
          have hz : h ≠ 0 := fun e => by
            rw [e] at u6
            exact absurd u6 (show ¬ ((0 : Int) = 6) by decide)
          have hp := hd (h - 1) (by omega) (by omega)
          rw [v5, q4, if_neg hz, lw 604 _ (by decide) (by decide), lw 603 _ (by decide) (by decide), hp.1, hp.2.1, kA_i (by omega)]
          unfold pA
          rw [if_pos (by omega)]
        · rw [q5 _ hh.2.2.2.1 (by have := hh.2.2.2.2.2.2.2 u6; omega), k5, kA_i h0, u6, if_neg (by decide), vA_k h0 u6 (by rw [show xcv_2 6 = 4 by decide +kernel]; decide), vof_6_0, nbs_1, Int.add_zero]
          have := hb (hY f N h)
          omega
        · have e : t = h := by
            rcases hk with v | v
            · exact v.2
            · omega
          have z20 := hh.2.2.2.2.2.2.1 u2
          have zz : hZ f N h = 4 * (f (hY f N h) % 16) := by
            unfold hZ
            rw [u2]
            unfold hsZ
            rw [if_pos rfl, hb_i hh.2.2.2.1 (by omega)]
          rw [e, q5 _ hh.2.2.2.1 (by omega), ← zz]
          exact ⟨rfl, by omega⟩
      · exact absurd ⟨c1, c2⟩ t4
    · rw [l7] at c1
      rcases t4 with ⟨u1, u2, -⟩ | ⟨-, ⟨v1, v2, v3⟩, v4⟩
      · exact absurd ⟨u1, u2⟩ c1
      · rw [c2, up 617 g (by decide) (by decide)] at u
        rw [c2, up 617 g (by decide) (by decide), up 621 g (by decide) (by decide), up 620 g (by decide) (by decide), up 619 g (by decide) (by decide), lw 607 g (by decide) (by decide), lw 611 g (by decide) (by decide), v2, v3, up 618 _ (by decide) (by decide), up 618 _ (by decide) (by decide)]
        obtain ⟨g1, g2, g3, g4⟩ := l6 u
        exact ⟨fun k k0 k1 => by rw [v4, up 618 _ (by decide) (by decide)]; exact g1 k k0 k1, g2, g3, g4⟩
  · rw [K2.1 598 34 (by decide) (by decide) (by decide) (by decide) (by decide), y3, if_neg (by decide), K2.1 622 k (by decide) (by decide) (by decide) (by decide) (by decide)]
    rcases (show k = 0 ∨ k = 1 ∨ k = 2 ∨ k = 3 ∨ k = 4 by omega) with rfl | rfl | rfl | rfl | rfl
    · rw [t7, y4, govs]
    · rw [t8, y5, govs]
    · rw [t9, y6]
    · rw [ta, y7, w2]
    · rw [tb, y8]
  · rw [K2.2.1 b j h3 hj, y9 b j h4 h1 h2 h5]
    by_cases e1 : b = 613
    · rw [e1]; exact (w7 j hj).1
    · by_cases e2 : b = 614
      · rw [e2]; exact (w7 j hj).2
      · exact w6 b j e1 e2 h2
  · rw [K2.1 615 j (by decide) (by decide) (by decide) (by decide) (by decide), (y2 j hj).2, w6 615 j (by decide) (by decide) (by decide)]
  · rw [K2.1 616 j (by decide) (by decide) (by decide) (by decide) (by decide), (y2 j hj).1, w8 j hj]
  · rw [K2.2.2 j hj, up 618 j (by decide) (by decide)]
/-- the packet is put together -/
theorem ga_n {M R5 : jm} {G : Nat} {g : Int} (L : GL M R5 G g) : NRD M G ↔ NR6 R5 g := by
  obtain ⟨-, -, ⟨l3, -, l3'⟩, l4, l5, -⟩ := L
  unfold NRD NR6
  rw [← l3, ← l5]
  rcases l3' with e | e
  · exact ⟨fun _ => Or.inl e, fun _ => Or.inl e⟩
  · rw [lpf_p e]
    rw [lpf_p e] at l4
    rw [rdy_c (v := wR R5 g) (M G 7).toNat 0 (fun k k0 k1 => l4 k k0 (by omega))]
theorem ga_h {M R5 : jm} {G : Nat} {g : Int} (L : GL M R5 G g) : hlf (M G 1) (M G 11) = hl2 (R5 607 g) (R5 617 g) := by
  rw [L.1.1, L.2.2.2.2.1]
  unfold hlf hl2
  rcases L.2.1 with e | e <;> rw [e]
  · rfl
  · rfl
theorem ga_m {M R5 : jm} {G : Nat} {g p : Int} {F : Int → Int} (L : GL M R5 G g) (n : ¬ NR6 R5 g) (hF : F = rf R5 p) (h0 : R5 617 g ≠ -1 → 0 ≤ R5 621 g) : mkA M G F = mkR R5 g p := by
  have hh := ga_h L
  obtain ⟨⟨l1, -, -, -, l1b, -⟩, l2, ⟨l3, -, l3'⟩, l4, l5, l6⟩ := L
  unfold NR6 at n
  have n1 : R5 614 g ≠ -1 := fun e => n (Or.inl e)
  have n2 : R5 617 g ≠ -1 := fun e => n (Or.inr (Or.inl e))
  have n3 : rdy (wR R5 g) (R5 614 g).toNat 0 ≠ 0 := fun e => n (Or.inr (Or.inr e))
  have w := l3'.resolve_left (by rw [l3]; exact n1)
  rw [lpf_p w, l3] at l4
  rw [l3] at w
  obtain ⟨g1, g2, g3, g4⟩ := l6 n2
  have m0 : mk0 (M (G + 2)) (M (G + 1)) F (hl2 (R5 607 g) (R5 617 g)) (R5 614 g) = mkG R5 g p := by
    unfold mkG
    rw [hF]
    have hle : hl2 (R5 607 g) (R5 617 g) ≤ R5 617 g := by
      unfold hl2
      split <;> omega
    funext k
    unfold mk0
    by_cases c1 : 0 ≤ k ∧ k < hl2 (R5 607 g) (R5 617 g)
    · rw [if_pos c1, if_pos c1]
      exact g1 k c1.1 (by omega)
    · rw [if_neg c1, if_neg c1]
      by_cases c2 : hl2 (R5 607 g) (R5 617 g) ≤ k ∧ k < hl2 (R5 607 g) (R5 617 g) + R5 614 g
      · rw [if_pos c2, if_pos c2, l4 _ (by omega) (by omega)]
        have a := rdy_a _ _ n3 (k - hl2 (R5 607 g) (R5 617 g)) (by omega) (by omega)
        unfold wR at a ⊢
        by_cases c3 : R5 616 (360 * g + (k - hl2 (R5 607 g) (R5 617 g))) ≠ 0
        · rw [if_pos c3]; rfl
        · rw [if_neg c3] at a
          exact absurd rfl a
      · rw [if_neg c2, if_neg c2]
  unfold mkA
  rw [hh, l3, m0, l1, g2, l1b]
  unfold mkF mkR
  rcases l2 with e | e
  · rw [if_pos e, if_pos e]
    obtain ⟨z1, z2⟩ := g4 e
    have hl : hl2 (R5 607 g) (R5 617 g) = R5 617 g := by rw [e]; rfl
    have at0 : mk2 (mkG R5 g p) (R5 621 g) (hl2 (R5 607 g) (R5 617 g) + R5 614 g) (R5 621 g) = R5 618 (400 * g + R5 621 g) := by
      unfold mk2
      rw [ptn_o (by omega), ptn_o (by omega)]
      unfold mkG mk0
      have := h0 n2
      rw [if_pos (by rw [hl]; omega)]
      rfl
    rw [at0, show hl2 (R5 607 g) (R5 617 g) - R5 621 g = 4 * (R5 618 (400 * g + R5 621 g) % 16) by rw [hl]; omega]
  · obtain ⟨z1, z2⟩ := g3 e
    rw [if_neg (by omega), if_neg (by omega), z1, z2]
end
section
/-! ===== gather: both sides answer alike ===== -/
theorem RDp.n {C D R : jm} (h : RDp C R) (n : NH C D) : RDp D R := fun p p0 p1 => by
  have k := kP p0 p1
  have x := xpk (g := p) ⟨p0, p1⟩
  refine ⟨?_, fun i i0 i1 => ?_⟩
  · rw [n _ 1 (by rw [k.1]; decide) (by omega)]; exact (h p p0 p1).1
  · rw [n _ i (by rw [k.2]; decide) (by omega)]; exact (h p p0 p1).2 i i0 i1
theorem RDl.n {C D R : jm} (h : RDl C R) (n : NH C D) : RDl D R := fun i i0 i1 => by
  rw [n 14 i (by decide) (by decide)]
  exact h i i0 i1
end
