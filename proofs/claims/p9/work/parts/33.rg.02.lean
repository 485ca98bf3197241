section
section PS
variable {fw ra rb co ar wt pt ow oa bk bp : Int → Int} {nc nn cd dp ib sg bl tt b o k d z x : Int} {ht P D E : Int → Int}
theorem ESg.sgle (h : ESg fw ra rb co ar wt pt ow oa bk bp nc nn cd dp ib sg bl tt b o k d z x ht P D E) : 0 ≤ dp - bl - d ∧ sg ≤ 7 * (dp - bl - d) + 6 ∧ 2 * cd + k ≤ 6 * nn + 4 * nc + tt ∧ (sg = 0 ∨ sg ≤ 7 * (dp - bl - d) + strn (wt (sg - 1))) := by
  obtain ⟨⟨g1, g2, g3, g4, g5, g6, g7, g8, g9, g10, g11⟩, i1, i2, i3, i4, i5, i6, i7, i8⟩ := h
  obtain ⟨s1, s2, s3, s4, s5⟩ := i3 sg g7 (Int.le_refl _)
  have st := strn_le (wt (sg - 1))
  have rv := RVq_le g9 ib
  exact ⟨by omega, by omega, by omega, by omega⟩
end PS
end
section
/-! ===== the parser's state over the memory ===== -/
theorem jw_o {M : jm} {a b : Nat} {i v : Int} (h : b ≠ a) : ju M a i v b = M b := funext fun _ => ju_c M v h
theorem jw_s (M : jm) (a : Nat) (i v : Int) : ju M a i v a = fu (M a) i v := by
  funext k
  simp [ju, fu]
noncomputable def ES (M : jm) (b o k d z x : Int) : Prop := ESq (M 650) (M 657) (M 658) (M 659) (M 660) (M 664) (M 665) (M 666) (M 667) (M 668) (M 669) (M 598 88) (M 598 89) (M 598 90) (M 598 100) (M 598 101) (M 598 102) (M 598 107) (M 598 73) b o k d z x
section PM
variable {M : jm} {b o k d z x : Int}
theorem ES.emit (h : ES M b o k d z x) {c : Int} (e : M 598 90 = c) (op a k' : Int) (h1 : vop op) (h2 : ndo op ≤ b + o) (h3 : exo op → M 598 102 = 0 ∧ b + o = ndo op) (h4 : jpo op → PBq (M 668) (M 669) (M 598 107) c ∨ PEq (M 664) (M 665) (M 598 102) c ∨ c = x) (h5 : op = 5 → FV a) (h6 : op = 28 ∨ op = 29 → 1 ≤ c ∧ M 659 (c - 1) = 0 ∧ 0 ≤ a ∧ a < M 598 88) (h7 : k' + 2 ≤ k) (h7' : 0 ≤ k') (h8 : M 598 100 - M 598 107 - d ≤ 13) (h9 : o ≤ 5) : ES (ju (ju (ju M 659 c op) 660 c a) 598 90 (c + 1)) b (o + dlo op) k' d 1 x := by
  subst e
  unfold ES at h ⊢
  obtain ⟨ht, P, D, E, h⟩ := h
  have q := h.emit op a k' h1 h2 h3 h4 h5 h6 h7 h7' h8 h9
  simp (decide := true) only [jw_o, jw_s, fu_ne, fu_eq, ne_eq, not_false_eq_true]
  exact ⟨_, _, _, _, q⟩
/-- cells that the state reads -/
noncomputable def pR (a : Nat) (i : Int) : Bool := bif Nat.beq a 598 then (Nat.beq i.toNat 88 || Nat.beq i.toNat 90 || Nat.beq i.toNat 101 || Nat.beq i.toNat 102 || Nat.beq i.toNat 107) else (Nat.beq a 650 || Nat.beq a 657 || Nat.beq a 658 || Nat.beq a 659 || Nat.beq a 660 || (Nat.ble 664 a && Nat.ble a 669))
theorem ES.fr (h : ES M b o k d z x) {M' : jm} (e : ∀ (a : Nat) (i : Int), pR a i = true → M' a i = M a i) {k' d' z' : Int} (hk : k' + 6 * M 598 89 + M 598 73 ≤ k + 6 * M' 598 89 + M' 598 73) (hk0 : 0 ≤ k') (hz : 0 ≤ z' ∧ z' ≤ z) (hd : M' 598 100 - d' = M 598 100 - d) : ES M' b o k' d' z' x := by
  unfold ES at h ⊢
  have r : ∀ a : Nat, (∀ i : Int, pR a i = true) → M' a = M a := fun a ha => funext fun i => e a i (ha i)
  rw [r 650 (fun _ => rfl), r 657 (fun _ => rfl), r 658 (fun _ => rfl), r 659 (fun _ => rfl), r 660 (fun _ => rfl), r 664 (fun _ => rfl), r 665 (fun _ => rfl), r 666 (fun _ => rfl), r 667 (fun _ => rfl), r 668 (fun _ => rfl), r 669 (fun _ => rfl), e 598 88 rfl, e 598 90 rfl, e 598 101 rfl, e 598 102 rfl, e 598 107 rfl]
  obtain ⟨ht, P, D, E, h⟩ := h
  exact ⟨ht, P, D, E, h.adj hk hk0 hz hd⟩
theorem ES.adj (h : ES M b o k d z x) {k' z' : Int} (hk : k' ≤ k) (hk0 : 0 ≤ k') (hz : 0 ≤ z' ∧ z' ≤ z) : ES M b o k' d z' x := h.fr (fun _ _ _ => rfl) (by omega) hk0 hz rfl
/-- a sign of the kinds that go deeper: - ! ( -/
theorem ES.deep (h : ES M b 0 k d z x) {c : Int} (e : M 598 102 = c) (s w ee k' : Int) (hs : (s = 40 ∧ ((w = -1 ∧ ee = 0) ∨ (25 ≤ w ∧ w ≤ 30 ∧ ee = 1))) ∨ ((s = 10 ∨ s = 11) ∧ ee = 1)) (hk : k' + 2 * ee ≤ k) (hk0 : 0 ≤ k') : ES (ju (ju (ju (ju M 664 c s) 666 c w) 667 c 1) 598 102 (c + 1)) b 0 k' (d - 1) z x := by
  subst e
  unfold ES at h ⊢
  obtain ⟨ht, P, D, E, h⟩ := h
  have al := argn_le w
  have g := h.sgle
  obtain ⟨⟨g1, g2, g3, g4, g5, g6, g7, g8, g9, g10, g11⟩, i1, i2, i3, i4, i5, i6, i7, i8⟩ := id h
  obtain ⟨s1, s2, s3, s4, s5⟩ := i3 _ g7 (Int.le_refl _)
  have st := strn_le (M 664 (M 598 102 - 1))
  have s0 := (strn_le s).1
  have q := h.push s w 0 (o' := 0) (k' := k') (d' := d - 1) (pp := 0) (dd := 1) (ee := ee) (pt' := M 665) (fun _ _ => rfl) (by
    unfold SWq
    rw [fu_eq, fu_eq, fu_eq, fu_eq, fu_eq, fu_eq, fu_ne _ _ (by omega), fu_ne _ _ (by omega), fu_ne _ _ (by omega)]
    rcases hs with ⟨a, a2⟩ | ⟨a, a2⟩
    · refine Or.inl ⟨a, by omega, by omega, rfl, ?_⟩
      rcases a2 with ⟨b1, b2⟩ | ⟨b1, b2, b3⟩
      · exact Or.inl ⟨b1, rfl, by omega⟩
      · exact Or.inr ⟨b1, b2, by omega, by omega⟩
    · exact Or.inr (Or.inl ⟨a, by omega, rfl, by omega⟩)) (by omega) (by omega) (by omega) (by omega) (by omega) (by omega) hk hk0
  simp (decide := true) only [jw_o, jw_s, fu_ne, fu_eq, ne_eq, not_false_eq_true]
  exact ⟨_, _, _, _, q⟩
/-- a sign of two, but & and | -/
theorem ES.two (h : ES M b 1 k d z x) {c : Int} (e : M 598 102 = c) (s w k' : Int) (hs : 3 ≤ strn s ∧ strn s ≤ 5) (hL : c = 0 ∨ strn (M 664 (c - 1)) < strn s) (hk : k' + 2 ≤ k) (hk0 : 0 ≤ k') : ES (ju (ju (ju (ju M 664 c s) 666 c w) 667 c 1) 598 102 (c + 1)) b 0 k' d z x := by
  subst e
  unfold ES at h ⊢
  obtain ⟨ht, P, D, E, h⟩ := h
  obtain ⟨⟨g1, g2, g3, g4, g5, g6, g7, g8, g9, g10, g11⟩, i1, i2, i3, i4, i5, i6, i7, i8⟩ := id h
  obtain ⟨s1, s2, s3, s4, s5⟩ := i3 _ g7 (Int.le_refl _)
  have q := h.push s w 0 (o' := 0) (k' := k') (d' := d) (pp := 1) (dd := 0) (ee := 1) (pt' := M 665) (fun _ _ => rfl) (by
    unfold SWq
    rw [fu_eq, fu_eq, fu_eq, fu_eq, fu_eq, fu_eq, fu_ne _ _ (by omega), fu_ne _ _ (by omega), fu_ne _ _ (by omega)]
    exact Or.inr (Or.inr (Or.inr ⟨hs.1, hs.2, rfl, by omega, rfl⟩))) (by omega) (by omega) (by omega) (by omega) (by omega) (by omega) (by omega) hk0
  simp (decide := true) only [jw_o, jw_s, fu_ne, fu_eq, ne_eq, not_false_eq_true]
  exact ⟨_, _, _, _, q⟩
/-- & and |: the sign, the jump that it keeps -/
theorem ES.opn (h : ES M b 1 k d z (-1)) {c n : Int} (e : M 598 102 = c) (e2 : M 598 90 = n) (s w op k' : Int) (hs : s = 38 ∨ s = 124) (hop : op = 7 ∨ op = 8) (hL : c = 0 ∨ strn (M 664 (c - 1)) < strn s) (hk : k' + 4 ≤ k) (hk0 : 0 ≤ k') (h8 : M 598 100 - M 598 107 - d ≤ 13) : ES (ju (ju (ju (ju (ju (ju (ju (ju M 664 c s) 666 c w) 667 c 1) 598 102 (c + 1)) 665 (c + 1 - 1) n) 659 n op) 660 n 0) 598 90 (n + 1)) b 0 k' d 1 (-1) := by
  rw [show c + 1 - 1 = c by omega]
  subst e
  subst e2
  unfold ES at h ⊢
  obtain ⟨ht, P, D, E, h⟩ := h
  obtain ⟨⟨g1, g2, g3, g4, g5, g6, g7, g8, g9, g10, g11⟩, i1, i2, i3, i4, i5, i6, i7, i8⟩ := id h
  obtain ⟨s1, s2, s3, s4, s5⟩ := i3 _ g7 (Int.le_refl _)
  have st := strn_le s
  have sn : 1 ≤ strn s := by rcases hs with r | r <;> subst r <;> decide
  have nd : ndo op = 1 := by rcases hop with r | r <;> subst r <;> decide
  have dl : dlo op = -1 := by rcases hop with r | r <;> subst r <;> decide
  have q1 := (h.setx (M 598 90) (fun i i0 i1 e => by omega)).emit op 0 (k' + 2) (by unfold vop; omega) (by omega) (by unfold exo; omega) (fun _ => Or.inr (Or.inr rfl)) (by omega) (by omega) (by omega) (by omega) h8 (by omega)
  rw [dl] at q1
  have q2 := q1.push s w 0 (o' := 0) (k' := k') (d' := d) (pp := 0) (dd := 0) (ee := 1) (pt' := fu (M 665) (M 598 102) (M 598 90)) (fun j hj => fu_ne _ _ (by omega)) (by
    unfold SWq
    rw [fu_eq, fu_eq, fu_eq, fu_eq, fu_eq, fu_eq, fu_eq, fu_eq, fu_ne P _ (by omega), fu_ne D _ (by omega), fu_ne E _ (by omega), fu_ne ht _ (by omega)]
    exact Or.inr (Or.inr (Or.inl ⟨hs, by omega, by omega, rfl, g8, by omega, hop, i6⟩))) (by omega) (by omega) (by omega) (by omega) (by omega) (by omega) (by omega) hk0
  have q3 := q2.setx (-1) (fun i i0 i1 e => Or.inr (Or.inl ⟨M 598 102, g7, by omega, by rw [fu_eq]; exact hs, by rw [fu_eq]; exact e.symm⟩))
  simp (decide := true) only [jw_o, jw_s, fu_ne, fu_eq, ne_eq, not_false_eq_true]
  exact ⟨_, _, _, _, q3⟩
/-- a sign of one on top is laid -/
theorem ES.redU (h : ES M b 1 k d z (-1)) {c n p s : Int} (e : M 598 102 = c) (e2 : M 598 90 = n) (e3 : M 598 100 = p) (e4 : M 664 (c - 1) = s) (h0 : 0 < c) (hs : s = 10 ∨ s = 11) (h8 : M 598 100 - M 598 107 - d ≤ 13) : ES (ju (ju (ju (ju (ju M 598 102 (c - 1)) 659 n s) 660 n 0) 598 90 (n + 1)) 598 100 (p - 1)) b 1 k d 1 (-1) := by
  subst e
  subst e2
  subst e3
  unfold ES at h ⊢
  obtain ⟨ht, P, D, E, h⟩ := h
  obtain ⟨⟨g1, g2, g3, g4, g5, g6, g7, g8, g9, g10, g11⟩, i1, i2, i3, i4, i5, i6, i7, i8⟩ := id h
  have w := i2 (M 598 102 - 1) (by omega) (by omega)
  unfold SWq at w
  rw [show M 598 102 - 1 + 1 = M 598 102 by omega, e4] at w
  have nd : ndo s = 1 := by rcases hs with r | r <;> subst r <;> decide
  have dl : dlo s = 0 := by rcases hs with r | r <;> subst r <;> decide
  have ss : strn s = 6 := by rcases hs with r | r <;> subst r <;> decide
  have q1 := h.pop h0 (o' := 1) (k' := k + 2) (d' := d + 1) (x' := -1) (by omega) (by omega) (by omega) (by omega) (fun i q => by rw [e4] at q; omega)
  have q2 := q1.emit s 0 k (by unfold vop; omega) (by omega) (by unfold exo; omega) (by unfold jpo; omega) (by omega) (by omega) (by omega) (by omega) (by omega) (by omega)
  rw [dl] at q2
  have q3 := q2.adj (nn' := M 598 89) (tt' := M 598 73) (k' := k) (z' := 1) (dp' := M 598 100 - 1) (d' := d) (by omega) (by omega) (by omega) (by omega)
  simp (decide := true) only [jw_o, jw_s, fu_ne, fu_eq, ne_eq, not_false_eq_true]
  exact ⟨_, _, _, _, q3⟩
/-- a sign of two on top is laid -/
theorem ES.redB (h : ES M b 1 k d z (-1)) {c n s : Int} (e : M 598 102 = c) (e2 : M 598 90 = n) (e4 : M 664 (c - 1) = s) (h0 : 0 < c) (hs : 3 ≤ strn s ∧ strn s ≤ 5) (h8 : M 598 100 - M 598 107 - d ≤ 13) : ES (ju (ju (ju (ju M 598 102 (c - 1)) 659 n (100 + s)) 660 n 0) 598 90 (n + 1)) b 1 k d 1 (-1) := by
  subst e
  subst e2
  unfold ES at h ⊢
  obtain ⟨ht, P, D, E, h⟩ := h
  obtain ⟨⟨g1, g2, g3, g4, g5, g6, g7, g8, g9, g10, g11⟩, i1, i2, i3, i4, i5, i6, i7, i8⟩ := id h
  have w := i2 (M 598 102 - 1) (by omega) (by omega)
  unfold SWq at w
  rw [show M 598 102 - 1 + 1 = M 598 102 by omega, e4] at w
  have sv : s = 61 ∨ s = 60 ∨ s = 62 ∨ s = 43 ∨ s = 45 ∨ s = 42 ∨ s = 47 ∨ s = 37 := by
    unfold strn at hs
    (repeat' split at hs) <;> omega
  have nd : ndo (100 + s) = 2 := by rcases sv with r | r | r | r | r | r | r | r <;> subst r <;> decide
  have dl : dlo (100 + s) = -1 := by rcases sv with r | r | r | r | r | r | r | r <;> subst r <;> decide
  have q1 := h.pop h0 (o' := 2) (k' := k + 2) (d' := d) (x' := -1) (by omega) (by omega) (by omega) (by omega) (fun i q => by rw [e4] at q; omega)
  have q2 := q1.emit (100 + s) 0 k (by unfold vop; omega) (by omega) (by unfold exo; omega) (by unfold jpo; omega) (by omega) (by omega) (by omega) (by omega) (by omega) (by omega)
  rw [dl] at q2
  simp (decide := true) only [jw_o, jw_s, fu_ne, fu_eq, ne_eq, not_false_eq_true]
  exact ⟨_, _, _, _, q2⟩
/-- & or | on top: its end is laid, and its jump leads behind it -/
theorem ES.redA (h : ES M b 1 k d z (-1)) {c n p : Int} (e : M 598 102 = c) (e2 : M 598 90 = n) (e3 : M 665 (c - 1) = p) (h0 : 0 < c) (hs : M 664 (c - 1) = 38 ∨ M 664 (c - 1) = 124) (h8 : M 598 100 - M 598 107 - d ≤ 13) : ES (ju (ju (ju (ju (ju M 598 102 (c - 1)) 659 n 9) 660 n 0) 598 90 (n + 1)) 660 p (n + 1)) b 1 k d 0 (-1) := by
  subst e
  subst e2
  subst e3
  unfold ES at h ⊢
  obtain ⟨ht, P, D, E, h⟩ := h
  obtain ⟨⟨g1, g2, g3, g4, g5, g6, g7, g8, g9, g10, g11⟩, i1, i2, i3, i4, i5, i6, i7, i8⟩ := id h
  have w := i2 (M 598 102 - 1) (by omega) (by omega)
  unfold SWq at w
  rw [show M 598 102 - 1 + 1 = M 598 102 by omega] at w
  have w' : P (M 598 102) = P (M 598 102 - 1) ∧ D (M 598 102) = D (M 598 102 - 1) ∧ E (M 598 102) = E (M 598 102 - 1) + 1 ∧ 0 ≤ M 665 (M 598 102 - 1) ∧ M 665 (M 598 102 - 1) < M 598 90 ∧ (M 659 (M 665 (M 598 102 - 1)) = 7 ∨ M 659 (M 665 (M 598 102 - 1)) = 8) ∧ ht (M 665 (M 598 102 - 1)) = P (M 598 102 - 1) + 1 := by
    rcases w with w | w | w | w
    · omega
    · omega
    · exact w.2
    · exfalso
      rcases hs with r | r <;> rw [r] at w <;> exact absurd w.1 (by decide)
  obtain ⟨v1, v2, v3, v4, v5, v6, v7⟩ := w'
  have q1 := h.pop h0 (o' := 1) (k' := k + 2) (d' := d) (x' := M 665 (M 598 102 - 1)) (by omega) (by omega) (by omega) (by omega) (fun i q i0 i1 => by
    rcases q with q | q
    · omega
    · exact q.2.symm)
  have q2 := q1.emit 9 0 k (by unfold vop; omega) (show (1 : Int) ≤ b + 1 by omega) (by unfold exo; omega) (by unfold jpo; omega) (by omega) (by omega) (by omega) (by omega) (by omega) (by omega)
  have q3 := q2.patch v4 (by omega) (by rw [fu_ne _ _ (by omega)]; unfold jpo; omega) (by
    rw [fu_eq, fu_ne _ _ (by omega), if_neg (by omega), fu_ne _ _ (by omega), v7]
    have dl : dlo 9 = 0 := by decide
    omega) (by rw [show M 598 90 + 1 - 1 = M 598 90 by omega, fu_eq]; decide) (-1)
  simp (decide := true) only [jw_o, jw_s, fu_ne, fu_eq, ne_eq, not_false_eq_true]
  exact ⟨_, _, _, _, q3⟩
/-- a bracket that is closed -/
theorem ES.clo (h : ES M b 1 k d z (-1)) {c p w : Int} (e : M 598 102 = c) (e3 : M 598 100 = p) (e4 : M 664 (c - 1) = 40) (e5 : M 666 (c - 1) = w) (h0 : 0 < c) (hw : w = -1 ∨ M 667 (c - 1) = argn w) : (w = -1 ∧ ES (ju (ju M 598 102 (c - 1)) 598 100 (p - 1)) b 1 k d z (-1)) ∨ (25 ≤ w ∧ w ≤ 30 ∧ ES (ju (ju M 598 102 (c - 1)) 598 100 (p - 1)) b (argn w) (k + 2) d z (-1)) := by
  subst e
  subst e3
  subst e5
  unfold ES at h ⊢
  obtain ⟨ht, P, D, E, h⟩ := h
  obtain ⟨⟨g1, g2, g3, g4, g5, g6, g7, g8, g9, g10, g11⟩, i1, i2, i3, i4, i5, i6, i7, i8⟩ := id h
  have v := i2 (M 598 102 - 1) (by omega) (by omega)
  unfold SWq at v
  rw [show M 598 102 - 1 + 1 = M 598 102 by omega, e4] at v
  rcases v with ⟨_, v1, v2, v3, v4⟩ | ⟨v, _⟩ | ⟨v, _⟩ | ⟨v, _⟩
  · rcases v4 with ⟨u1, u2, u3⟩ | ⟨u1, u2, u3, u4⟩
    · have q1 := (h.pop h0 (o' := 1) (k' := k) (d' := d + 1) (x' := -1) (by omega) (by omega) (by omega) (by omega) (fun i q => by rw [e4] at q; omega)).adj (nn' := M 598 89) (tt' := M 598 73) (k' := k) (z' := z) (dp' := M 598 100 - 1) (d' := d) (by omega) (by omega) (by omega) (by omega)
      refine Or.inl ⟨u1, ?_⟩
      simp (decide := true) only [jw_o, jw_s, fu_ne, fu_eq, ne_eq, not_false_eq_true]
      exact ⟨_, _, _, _, q1⟩
    · have q1 := (h.pop h0 (o' := argn (M 666 (M 598 102 - 1))) (k' := k + 2) (d' := d + 1) (x' := -1) (by omega) (by omega) (by omega) (by omega) (fun i q => by rw [e4] at q; omega)).adj (nn' := M 598 89) (tt' := M 598 73) (k' := k + 2) (z' := z) (dp' := M 598 100 - 1) (d' := d) (by omega) (by omega) (by omega) (by omega)
      refine Or.inr ⟨u1, u2, ?_⟩
      simp (decide := true) only [jw_o, jw_s, fu_ne, fu_eq, ne_eq, not_false_eq_true]
      exact ⟨_, _, _, _, q1⟩
  · omega
  · omega
  · exact absurd v (by decide)
theorem ES.inc (h : ES M b 1 k d z x) {c v : Int} (e : M 598 102 = c) (e2 : M 667 (c - 1) = v) (h0 : 0 < c) (h1 : M 664 (c - 1) = 40) (h2 : M 666 (c - 1) ≠ -1) (h3 : v < argn (M 666 (c - 1))) : ES (ju M 667 (c - 1) (v + 1)) b 0 k d z x := by
  subst e
  subst e2
  unfold ES at h ⊢
  obtain ⟨ht, P, D, E, h⟩ := h
  have q := h.inc h0 h1 h2 h3
  simp (decide := true) only [jw_o, jw_s, fu_ne, fu_eq, ne_eq, not_false_eq_true]
  exact ⟨_, _, _, _, q⟩
theorem ES.sgle (h : ES M b o k d z x) : 0 ≤ M 598 100 - M 598 107 - d ∧ M 598 102 ≤ 7 * (M 598 100 - M 598 107 - d) + 6 ∧ 2 * M 598 90 + k ≤ 6 * M 598 89 + 4 * M 598 88 + M 598 73 := by
  obtain ⟨ht, P, D, E, h⟩ := h
  have := h.sgle
  exact ⟨this.1, this.2.1, this.2.2.1⟩
theorem ES.bb (h : ES M b o k d z x) : 0 ≤ b ∧ b ≤ 5 := by
  obtain ⟨ht, P, D, E, ⟨_, _, _, _, q1, q2, _⟩, _⟩ := h
  exact ⟨q1, q2⟩
theorem ES.kz (h : ES M b o k d z x) : 0 ≤ k ∧ 0 ≤ z := by
  obtain ⟨ht, P, D, E, ⟨_, _, _, _, _, _, _, _, _, q1, q2⟩, _⟩ := h
  exact ⟨q2, q1⟩
theorem ES.dpos (h : ES M b o k d z x) (h0 : 0 < M 598 102) : (M 664 (M 598 102 - 1) = 40 ∨ M 664 (M 598 102 - 1) = 10 ∨ M 664 (M 598 102 - 1) = 11) → 1 ≤ M 598 100 - M 598 107 - d := by
  intro q
  obtain ⟨ht, P, D, E, g, i1, i2, i3, i4, i5, i6, i7, i8⟩ := h
  have v := i2 (M 598 102 - 1) (by omega) (by omega)
  have t := i3 (M 598 102 - 1) (by omega) (by omega)
  unfold SWq at v
  rw [show M 598 102 - 1 + 1 = M 598 102 by omega] at v
  rcases v with v | v | v | v
  · omega
  · omega
  · omega
  · exfalso
    obtain ⟨v1, v2, _⟩ := v
    rcases q with q | q | q <;> rw [q] at v1 v2 <;> revert v1 v2 <;> decide
theorem ES.ptl (h : ES M b o k d z x) (h0 : 0 < M 598 102) : (M 664 (M 598 102 - 1) = 38 ∨ M 664 (M 598 102 - 1) = 124) → 0 ≤ M 665 (M 598 102 - 1) ∧ M 665 (M 598 102 - 1) < M 598 90 := by
  intro q
  obtain ⟨ht, P, D, E, g, i1, i2, i3, i4, i5, i6, i7, i8⟩ := h
  have v := i2 (M 598 102 - 1) (by omega) (by omega)
  unfold SWq at v
  rcases v with v | v | v | v
  · omega
  · omega
  · exact ⟨v.2.2.2.2.1, v.2.2.2.2.2.1⟩
  · exfalso
    rcases q with q | q <;> rw [q] at v <;> exact absurd v.1 (by decide)
theorem ES.emitO (h : ES M b 0 k d z x) {c : Int} (e : M 598 90 = c) (op a k' : Int) (hop : op = 4 ∨ (op = 5 ∧ FV a) ∨ op = 6 ∨ (350 ≤ op ∧ op ≤ 363)) (h7 : k' + 2 ≤ k) (h7' : 0 ≤ k') (h8 : M 598 100 - M 598 107 - d ≤ 13) : ES (ju (ju (ju M 659 c op) 660 c a) 598 90 (c + 1)) b 1 k' d 1 x := by
  have bb := ES.bb h
  have nd : ndo op = 0 := by
    rcases hop with r | ⟨r, _⟩ | r | r
    · rw [r]; decide
    · rw [r]; decide
    · rw [r]; decide
    · unfold ndo
      (repeat' split) <;> omega
  have dl : dlo op = 1 := by
    rcases hop with r | ⟨r, _⟩ | r | r
    · rw [r]; decide
    · rw [r]; decide
    · rw [r]; decide
    · unfold dlo
      rw [nd]
      (repeat' split) <;> omega
  have hv : 4 ≤ op ∧ op ≤ 363 ∧ (op ≤ 6 ∨ 350 ≤ op) := by
    rcases hop with r | ⟨r, _⟩ | r | r <;> omega
  have q := ES.emit h e op a k' (by unfold vop; omega) (by omega) (by unfold exo; omega) (by unfold jpo; omega) (fun q => by
    rcases hop with r | ⟨_, r⟩ | r | r
    · omega
    · exact r
    · omega
    · omega) (by omega) h7 h7' h8 (by omega)
  rw [dl] at q
  exact q
/-- what is on top of the signs -/
theorem ES.top (h : ES M b o k d z x) (h0 : 0 < M 598 102) : M 664 (M 598 102 - 1) = 40 ∧ (M 666 (M 598 102 - 1) = -1 ∨ (25 ≤ M 666 (M 598 102 - 1) ∧ M 666 (M 598 102 - 1) ≤ 30 ∧ M 667 (M 598 102 - 1) ≤ argn (M 666 (M 598 102 - 1)))) ∨ M 664 (M 598 102 - 1) = 10 ∨ M 664 (M 598 102 - 1) = 11 ∨ M 664 (M 598 102 - 1) = 38 ∨ M 664 (M 598 102 - 1) = 124 ∨ (3 ≤ strn (M 664 (M 598 102 - 1)) ∧ strn (M 664 (M 598 102 - 1)) ≤ 5) := by
  obtain ⟨ht, P, D, E, g, i1, i2, i3⟩ := h
  have v := i2 (M 598 102 - 1) (by omega) (by omega)
  unfold SWq at v
  rcases v with ⟨v0, v1, v2, v3, v4⟩ | ⟨v, _⟩ | ⟨v, _⟩ | ⟨v1, v2, _⟩
  · refine Or.inl ⟨v0, ?_⟩
    rcases v4 with ⟨u1, u2, u3⟩ | ⟨u1, u2, u3, u4⟩
    · exact Or.inl u1
    · exact Or.inr ⟨u1, u2, u3⟩
  · rcases v with v | v
    · exact Or.inr (Or.inl v)
    · exact Or.inr (Or.inr (Or.inl v))
  · rcases v with v | v
    · exact Or.inr (Or.inr (Or.inr (Or.inl v)))
    · exact Or.inr (Or.inr (Or.inr (Or.inr (Or.inl v))))
  · exact Or.inr (Or.inr (Or.inr (Or.inr (Or.inr ⟨v1, v2⟩))))
/-- between expressions: what the signs are doesn't matter -/
noncomputable def XS (M : jm) (b k d z x : Int) : Prop := ES (ju M 598 102 0) b 0 k d z x
theorem ES.xs (h : ES M b o k d z x) (h0 : M 598 102 = 0) (hb : 0 ≤ b + o ∧ b + o ≤ 5) : XS M (b + o) k d z x := by
  unfold XS
  unfold ES at h ⊢
  obtain ⟨ht, P, D, E, h⟩ := h
  have q := h.base h0 hb (M 664) (M 665) (M 666) (M 667)
  simp (decide := true) only [jw_o, jw_s, fu_ne, fu_eq, ne_eq, not_false_eq_true]
  exact ⟨_, _, _, _, q⟩
end PM
theorem ES.fr2 {M M' : jm} {b o k d z x : Int} (h : ES M b o k d z x) (F : ∀ (a : Nat) (i : Int), a ≠ 598 → M' a i = M a i) (g1 : M' 598 88 = M 598 88) (g2 : M' 598 90 = M 598 90) (g3 : M' 598 101 = M 598 101) (g4 : M' 598 102 = M 598 102) (g5 : M' 598 107 = M 598 107) {k' d' z' : Int} (hk : k' + 6 * M 598 89 + M 598 73 ≤ k + 6 * M' 598 89 + M' 598 73) (hk0 : 0 ≤ k') (hz : 0 ≤ z' ∧ z' ≤ z) (hd : M' 598 100 - d' = M 598 100 - d) : ES M' b o k' d' z' x := by
  unfold ES at h ⊢
  have r : ∀ a : Nat, a ≠ 598 → M' a = M a := fun a ha => funext fun i => F a i ha
  rw [r 650 (by decide), r 657 (by decide), r 658 (by decide), r 659 (by decide), r 660 (by decide), r 664 (by decide), r 665 (by decide), r 666 (by decide), r 667 (by decide), r 668 (by decide), r 669 (by decide), g1, g2, g3, g4, g5]
  obtain ⟨ht, P, D, E, h⟩ := h
  exact ⟨ht, P, D, E, h.adj hk hk0 hz hd⟩
/-- what is left of the text -/
noncomputable def TK (M : jm) : Int := 2 * (1600 - M 598 73) + min 1 (M 598 74)
noncomputable def GS (M : jm) (b o k : Int) : Prop := M 598 80 = 0 ∧ ES M b o k 0 0 (-1) ∧ M 598 89 ≤ 300 ∧ M 598 100 ≤ 12 ∧ M 598 73 ≤ M 598 72 ∧ (M 598 74 = 3 → M 598 79 ≠ 10 ∧ M 598 79 ≠ 11)
theorem GS.cast {M : jm} {b o o' k : Int} (h : GS M b o k) (e : o = o') : GS M b o' k := by
  subst e
  exact h
noncomputable def SS (M : jm) (b k : Int) : Prop := M 598 80 = 0 ∧ XS M b k 0 0 (-1) ∧ M 598 89 ≤ 300 ∧ M 598 100 ≤ 12 ∧ M 598 73 ≤ M 598 72 ∧ (M 598 74 = 3 → M 598 79 ≠ 10 ∧ M 598 79 ≠ 11)
theorem strn_and {s : Int} (h : 1 ≤ strn s ∧ strn s < 3) : s = 38 ∨ s = 124 := by
  unfold strn at h
  (repeat' split at h) <;> omega
theorem strn_un {s : Int} (h : strn s = 6) : s = 10 ∨ s = 11 := by
  unfold strn at h
  (repeat' split at h) <;> omega
noncomputable def BS (M : jm) : Prop := M 598 80 ≠ 0 ∧ M 598 90 ≤ 1800
theorem TK.le {M : jm} (h : 0 ≤ M 598 73) : TK M ≤ 3201 := by
  unfold TK
  omega
theorem TK.fr {M M' : jm} (h1 : M' 598 73 = M 598 73) (h2 : M' 598 74 = M 598 74) : TK M' = TK M := by
  unfold TK
  rw [h1, h2]
theorem TK.o {M : jm} {a : Nat} {i v : Int} (h : a ≠ 598 ∨ (i ≠ 73 ∧ i ≠ 74)) : TK (ju M a i v) = TK M := by
  refine TK.fr ?_ ?_
  · rcases h with h | h
    · exact ju_c M v (fun e => h e.symm)
    · exact ju_i M v (fun e => h.1 e.symm)
  · rcases h with h | h
    · exact ju_c M v (fun e => h e.symm)
    · exact ju_i M v (fun e => h.2 e.symm)
end
section
/-! ===== the parser between expressions ===== -/
section PX
variable {M : jm} {b k d z x : Int}
theorem XS.fr2 (h : XS M b k d z x) {M' : jm} (F : ∀ (a : Nat) (i : Int), a ≠ 598 → M' a i = M a i) (g1 : M' 598 88 = M 598 88) (g2 : M' 598 90 = M 598 90) (g3 : M' 598 101 = M 598 101) (g5 : M' 598 107 = M 598 107) {k' d' z' : Int} (hk : k' + 6 * M 598 89 + M 598 73 ≤ k + 6 * M' 598 89 + M' 598 73) (hk0 : 0 ≤ k') (hz : 0 ≤ z' ∧ z' ≤ z) (hd : M' 598 100 - d' = M 598 100 - d) : XS M' b k' d' z' x := by
  unfold XS at h ⊢
  refine ES.fr2 h (fun a i ha => ?_) ?_ ?_ ?_ ?_ ?_ ?_ hk0 hz ?_
  · rw [ju_c _ _ ha, ju_c _ _ ha]
    exact F a i ha
  · rw [ju_i _ _ (by decide), ju_i _ _ (by decide)]
    exact g1
  · rw [ju_i _ _ (by decide), ju_i _ _ (by decide)]
    exact g2
  · rw [ju_i _ _ (by decide), ju_i _ _ (by decide)]
    exact g3
  · rw [ju_same, ju_same]
  · rw [ju_i _ _ (by decide), ju_i _ _ (by decide)]
    exact g5
  · rw [ju_i M _ (by decide), ju_i M _ (by decide), ju_i M' _ (by decide), ju_i M' _ (by decide)]
    exact hk
  · rw [ju_i M _ (by decide), ju_i M' _ (by decide)]
    exact hd
/-- rows of a memory, for the lemmas below: what XS says of it -/
theorem XS.rows : XS M b k d z x ↔ ESq (M 650) (M 657) (M 658) (M 659) (M 660) (M 664) (M 665) (M 666) (M 667) (M 668) (M 669) (M 598 88) (M 598 89) (M 598 90) (M 598 100) (M 598 101) 0 (M 598 107) (M 598 73) b 0 k d z x := by
  unfold XS ES
  simp (decide := true) only [jw_o, jw_s, fu_ne, fu_eq, ne_eq, not_false_eq_true]
theorem XS.emit (h : XS M b k d z x) {c : Int} (e : M 598 90 = c) (op a k' : Int) (h1 : vop op) (h2 : exo op) (h3 : b = ndo op) (h4 : jpo op → c = x) (h6 : op = 28 ∨ op = 29 → 1 ≤ c ∧ M 659 (c - 1) = 0 ∧ 0 ≤ a ∧ a < M 598 88) (h7 : k' + 2 ≤ k) (h7' : 0 ≤ k') (h8 : M 598 100 - M 598 107 - d ≤ 13) (b' : Int) (hb : b' = b + dlo op) (hb' : 0 ≤ b' ∧ b' ≤ 5) : XS (ju (ju (ju M 659 c op) 660 c a) 598 90 (c + 1)) b' k' d 1 x := by
  subst e
  rw [XS.rows] at h ⊢
  obtain ⟨ht, P, D, E, h⟩ := h
  have q := h.emit op a k' h1 (by omega) (fun _ => ⟨rfl, by omega⟩) (fun w => Or.inr (Or.inr (h4 w))) (fun w => by unfold exo at h2; omega) h6 h7 h7' h8 (by omega)
  have q2 := q.base rfl (by omega) (M 664) (M 665) (M 666) (M 667)
  simp (decide := true) only [jw_o, jw_s, fu_ne, fu_eq, ne_eq, not_false_eq_true]
  rw [hb]
  rw [show b + (0 + dlo op) = b + dlo op by omega] at q2
  exact ⟨_, _, _, _, q2⟩
/-- a jump whose target comes later -/
theorem XS.setx (h : XS M b k d z (-1)) (x' : Int) : XS M b k d z x' := by
  rw [XS.rows] at h ⊢
  obtain ⟨ht, P, D, E, h⟩ := h
  exact ⟨ht, P, D, E, h.setx x' (fun i i0 i1 e => by omega)⟩
theorem XS.blk (h : XS M b k d z x) {n : Int} (e : M 598 107 = n) (kd p k' : Int) (h1 : n = 0 → kd = M 598 101 ∧ 0 ≤ kd ∧ kd ≤ 1 ∧ x = -1) (h2 : 1 ≤ n → 2 ≤ kd ∧ kd ≤ 3 ∧ 0 ≤ p ∧ p < M 598 90 ∧ M 659 p = kd - 1 ∧ x = p) (hk : k' + RVq (n + 1) (M 598 101) ≤ k + RVq n (M 598 101)) (hk0 : 0 ≤ k') (hn : 0 ≤ n) : XS (ju (ju (ju M 668 n kd) 669 n p) 598 107 (n + 1)) b k' (d - 1) z (-1) := by
  subst e
  rw [XS.rows] at h ⊢
  obtain ⟨ht, P, D, E, h⟩ := h
  have q := h.blk kd p (fun w => by have := h1 w; omega) (fun w => by obtain ⟨u1, u2, u3, u4, u5, _⟩ := h2 w; exact ⟨u1, u2, u3, u4, u5⟩) hk hk0
  have q2 := q.setx (-1) (fun i i0 i1 w => by
    by_cases v : M 598 107 = 0
    · have := h1 v
      omega
    · obtain ⟨u1, u2, u3, u4, u5, u6⟩ := h2 (by omega)
      exact Or.inl ⟨M 598 107, hn, by omega, by rw [fu_eq]; exact u1, by rw [fu_eq]; omega⟩)
  simp (decide := true) only [jw_o, jw_s, fu_ne, fu_eq, ne_eq, not_false_eq_true]
  exact ⟨_, _, _, _, q2⟩
end PX
end
