section
section PX
variable {M : jm} {b k d z x : Int}
/-- a block of the kinds if and else is closed -/
theorem XS.unblk (h : XS M b k d z (-1)) {n p : Int} (e : M 598 107 = n) (e2 : M 598 100 = p) (h0 : 0 < n) (hk : 2 ≤ M 668 (n - 1)) (hib : M 598 101 ≤ 1) : XS (ju (ju M 598 107 (n - 1)) 598 100 (p - 1)) b (k + 2) d z (M 669 (n - 1)) ∧ 0 ≤ M 669 (n - 1) ∧ M 669 (n - 1) < M 598 90 ∧ M 659 (M 669 (n - 1)) = M 668 (n - 1) - 1 ∧ M 668 (n - 1) ≤ 3 ∧ 2 ≤ n := by
  subst e
  subst e2
  have hr := XS.rows.mp h
  obtain ⟨ht, P, D, E, hr⟩ := hr
  obtain ⟨⟨g1, g2, g3, g4, g5, g6, g7, g8, g9, g10, g11⟩, i1, i2, i3, i4, i5, i6, i7, i8⟩ := id hr
  obtain ⟨w1, w2, w3, w4⟩ := i4 (M 598 107 - 1) (by omega) (by omega)
  obtain ⟨v1, v2, v3⟩ := w4 hk
  have n2 : 2 ≤ M 598 107 := by
    by_cases v : M 598 107 - 1 = 0
    · have := w1 v
      omega
    · omega
  have rv : RVq (M 598 107 - 1) (M 598 101) + 2 = RVq (M 598 107) (M 598 101) := by
    unfold RVq
    rw [if_neg (by omega), if_neg (by omega : ¬ M 598 107 = 0)]
    split <;> omega
  have q := (hr.unblk h0 (k' := k + 2) (x' := M 669 (M 598 107 - 1)) (by omega) (by omega) (fun i w i0 i1 => by
    rcases w with w | w
    · omega
    · exact w.2.symm)).adj (nn' := M 598 89) (tt' := M 598 73) (k' := k + 2) (z' := z) (dp' := M 598 100 - 1) (d' := d) (by omega) (by omega) (by omega) (by omega)
  refine ⟨?_, v1, v2, v3, w3, n2⟩
  rw [XS.rows]
  simp (decide := true) only [jw_o, jw_s, fu_ne, fu_eq, ne_eq, not_false_eq_true]
  exact ⟨_, _, _, _, q⟩
/-- a chain's block, or the one behind it, is closed -/
theorem XS.unblk0 (h : XS M b k d z (-1)) {n p : Int} (e : M 598 107 = n) (e2 : M 598 100 = p) (h0 : 0 < n) (hk : M 668 (n - 1) ≤ 1) : XS (ju (ju M 598 107 (n - 1)) 598 100 (p - 1)) b (k + RVq 1 (M 598 101)) d z (-1) ∧ n = 1 ∧ M 668 (n - 1) = M 598 101 := by
  subst e
  subst e2
  have hr := XS.rows.mp h
  obtain ⟨ht, P, D, E, hr⟩ := hr
  obtain ⟨⟨g1, g2, g3, g4, g5, g6, g7, g8, g9, g10, g11⟩, i1, i2, i3, i4, i5, i6, i7, i8⟩ := id hr
  obtain ⟨w1, w2, w3, w4⟩ := i4 (M 598 107 - 1) (by omega) (by omega)
  have n1 : M 598 107 = 1 := by omega
  have rv0 : RVq (M 598 107 - 1) (M 598 101) = 0 := by
    unfold RVq
    rw [if_pos (by omega)]
  have rv1 : RVq (M 598 107) (M 598 101) = RVq 1 (M 598 101) := by rw [n1]
  have rl := RVq_le (show (0 : Int) ≤ 1 by decide) (M 598 101)
  have q := (hr.unblk h0 (k' := k + RVq 1 (M 598 101)) (x' := -1) (by omega) (by omega) (fun i w i0 i1 => by
    rcases w with w | w
    · exact w
    · omega)).adj (nn' := M 598 89) (tt' := M 598 73) (k' := k + RVq 1 (M 598 101)) (z' := z) (dp' := M 598 100 - 1) (d' := d) (by omega) (by omega) (by omega) (by omega)
  refine ⟨?_, n1, w1 (by omega)⟩
  rw [XS.rows]
  simp (decide := true) only [jw_o, jw_s, fu_ne, fu_eq, ne_eq, not_false_eq_true]
  exact ⟨_, _, _, _, q⟩
theorem XS.patch (h : XS M 0 k d z x) {c : Int} (e : M 598 90 = c) (h0 : 0 ≤ x) (h1 : x < c) (hj : M 659 x = 1 ∨ M 659 x = 2) (hl : M 659 (c - 1) ≠ 0) : XS (ju M 660 x c) 0 k d 0 (-1) := by
  subst e
  rw [XS.rows] at h ⊢
  obtain ⟨ht, P, D, E, h⟩ := h
  obtain ⟨⟨g1, g2, g3, g4, g5, g6, g7, g8, g9, g10, g11⟩, i1, i2, i3, i4, i5, i6, i7, i8⟩ := id h
  have q := h.patch h0 h1 (by unfold jpo; omega) (by rw [if_pos hj]; omega) hl (-1)
  simp (decide := true) only [jw_o, jw_s, fu_ne, fu_eq, ne_eq, not_false_eq_true]
  exact ⟨_, _, _, _, q⟩
theorem XS.els {p : Int} (h : XS M 0 k d z p) {c : Int} (e : M 598 90 = c) (h0 : 0 ≤ p) (h1 : p < c) (hj : M 659 p = 1) (hl : M 659 (c - 1) ≠ 0) (k' : Int) (hk : k' + 2 ≤ k) (hk0 : 0 ≤ k') (h8 : M 598 100 - M 598 107 - d ≤ 13) : XS (ju (ju (ju (ju M 659 c 2) 660 c 0) 598 90 (c + 1)) 660 p (c + 1)) 0 k' d 0 c := by
  subst e
  rw [XS.rows] at h ⊢
  obtain ⟨ht, P, D, E, h⟩ := h
  obtain ⟨⟨g1, g2, g3, g4, g5, g6, g7, g8, g9, g10, g11⟩, i1, i2, i3, i4, i5, i6, i7, i8⟩ := id h
  have q := h.patch h0 h1 (by unfold jpo; omega) (by rw [if_pos (Or.inl hj)]; omega) hl (M 598 90)
  have q1 := q.emit 2 0 k' (by unfold vop; omega) (show (0 : Int) ≤ 0 + 0 by omega) (fun _ => ⟨rfl, rfl⟩) (fun _ => Or.inr (Or.inr rfl)) (by omega) (by omega) hk hk0 h8 (by omega)
  have q2 := q1.patch' p h0 (by omega) (by rw [fu_ne _ _ (by omega)]; unfold jpo; omega) (by
    rw [fu_eq, fu_ne _ _ (by omega), if_pos (Or.inl hj), g2]
    rfl) (by rw [show M 598 90 + 1 - 1 = M 598 90 by omega, fu_eq]; decide) (M 598 90) (fun i i0 i1 e => Or.inr e)
  have q3 := q2.base rfl (show (0 : Int) ≤ 0 + (0 + dlo 2) ∧ 0 + (0 + dlo 2) ≤ 5 by decide) (M 664) (M 665) (M 666) (M 667)
  have e3 : fu (fu (fu (M 660) p (M 598 90)) (M 598 90) 0) p (M 598 90 + 1) = fu (fu (M 660) (M 598 90) 0) p (M 598 90 + 1) := by
    funext i
    unfold fu
    (repeat' split) <;> first | rfl | omega
  rw [e3] at q3
  simp (decide := true) only [jw_o, jw_s, fu_ne, fu_eq, ne_eq, not_false_eq_true]
  exact ⟨_, _, _, _, q3⟩
theorem XS.chn (h : XS M 0 k d z x) {n c nm : Int} (e : M 598 88 = n) (e2 : M 598 90 = c) (h0 : 0 ≤ n) (hl : c = 0 ∨ M 659 (c - 1) ≠ 0) : XS (ju (ju (ju (ju M 656 n nm) 657 n c) 658 n (-1)) 598 88 (n + 1)) 0 (k + 4) d 0 x := by
  subst e
  subst e2
  rw [XS.rows] at h ⊢
  obtain ⟨ht, P, D, E, h⟩ := h
  obtain ⟨⟨g1, g2, g3, g4, g5, g6, g7, g8, g9, g10, g11⟩, i1, i2, i3, i4, i5, i6, i7, i8⟩ := id h
  have q := h.chn h0 (by omega) hl
  simp (decide := true) only [jw_o, jw_s, fu_ne, fu_eq, ne_eq, not_false_eq_true]
  exact ⟨_, _, _, _, q⟩
theorem XS.bhd (h : XS M 0 k d z x) {c : Int} (e2 : M 598 90 = c) (i : Int) (hl : c = 0 ∨ M 659 (c - 1) ≠ 0) : XS (ju M 658 i c) 0 k d 0 x := by
  subst e2
  rw [XS.rows] at h ⊢
  obtain ⟨ht, P, D, E, h⟩ := h
  obtain ⟨⟨g1, g2, g3, g4, g5, g6, g7, g8, g9, g10, g11⟩, i1, i2, i3, i4, i5, i6, i7, i8⟩ := id h
  have q := h.bhd i (by omega) hl
  simp (decide := true) only [jw_o, jw_s, fu_ne, fu_eq, ne_eq, not_false_eq_true]
  exact ⟨_, _, _, _, q⟩
theorem XS.ib (h : XS M b k d z x) (hb : M 598 107 = 0) (v : Int) : XS (ju M 598 101 v) b k d z x := by
  rw [XS.rows] at h ⊢
  obtain ⟨ht, P, D, E, g, i1, i2, i3, i4, i5, i6, i7, i8⟩ := h
  have e1 : RVq (M 598 107) (M 598 101) = 0 := by unfold RVq; rw [if_pos hb]
  have e2 : RVq (M 598 107) v = 0 := by unfold RVq; rw [if_pos hb]
  rw [e1] at i8
  simp (decide := true) only [jw_o, jw_s, fu_ne, fu_eq, ne_eq, not_false_eq_true]
  exact ⟨ht, P, D, E, g, i1, i2, i3, fun j j0 j1 => by omega, i5, i6, i7, by rw [e2]; exact i8⟩
theorem XS.dp0 (h : XS M b k 0 z x) (hb : M 598 107 = 0) : M 598 100 = 0 ∧ XS (ju M 598 100 0) b k 0 z x := by
  rw [XS.rows] at h ⊢
  obtain ⟨ht, P, D, E, h⟩ := h
  obtain ⟨⟨g1, g2, g3, g4, g5, g6, g7, g8, g9, g10, g11⟩, i1, i2, i3, i4, i5, i6, i7, i8⟩ := id h
  have e : M 598 100 = 0 := by omega
  refine ⟨e, ?_⟩
  simp (decide := true) only [jw_o, jw_s, fu_ne, fu_eq, ne_eq, not_false_eq_true]
  rw [e] at h
  exact ⟨_, _, _, _, h⟩
theorem XS.asks (h : XS M b k d z x) {i c : Int} (hj : M 659 i = 28 ∨ M 659 i = 29) (hc : 0 ≤ c ∧ c < M 598 88) : XS (ju M 660 i c) b k d z x := by
  rw [XS.rows] at h ⊢
  obtain ⟨ht, P, D, E, h⟩ := h
  have q := h.asks i c hj hc
  simp (decide := true) only [jw_o, jw_s, fu_ne, fu_eq, ne_eq, not_false_eq_true]
  exact ⟨_, _, _, _, q⟩
theorem XS.irr (h : XS M b k d z x) {a : Nat} {i v : Int} (ha : 661 ≤ a ∧ a ≤ 663) : XS (ju M a i v) b k d z x := by
  rw [XS.rows] at h ⊢
  have r : ∀ c : Nat, (c ≤ 660 ∨ 664 ≤ c) → ju M a i v c = M c := fun c hc => jw_o (by omega)
  rw [r 650 (by omega), r 657 (by omega), r 658 (by omega), r 659 (by omega), r 660 (by omega), r 664 (by omega), r 665 (by omega), r 666 (by omega), r 667 (by omega), r 668 (by omega), r 669 (by omega), r 598 (by omega)]
  exact h
theorem XS.f96 (h : XS M b k d z x) {v : Int} : XS (ju M 598 96 v) b k d z x := by
  rw [XS.rows] at h ⊢
  simp (decide := true) only [jw_o, jw_s, fu_ne, fu_eq, ne_eq, not_false_eq_true]
  exact h
theorem XS.adj (h : XS M b k d z x) {k' z' : Int} (hk : k' ≤ k) (hk0 : 0 ≤ k') (hz : 0 ≤ z' ∧ z' ≤ z) : XS M b k' d z' x := ES.adj h hk hk0 hz
theorem XS.kz (h : XS M b k d z x) : 0 ≤ k ∧ 0 ≤ z := ES.kz h
theorem XS.blk1 (h : XS M b k 1 z x) {n : Int} (e : M 598 107 = n) (kd p k' : Int) (h1 : n = 0 → kd = M 598 101 ∧ 0 ≤ kd ∧ kd ≤ 1 ∧ x = -1) (h2 : 1 ≤ n → 2 ≤ kd ∧ kd ≤ 3 ∧ 0 ≤ p ∧ p < M 598 90 ∧ M 659 p = kd - 1 ∧ x = p) (hk : k' + RVq (n + 1) (M 598 101) ≤ k + RVq n (M 598 101)) (hk0 : 0 ≤ k') (hn : 0 ≤ n) : XS (ju (ju (ju M 668 n kd) 669 n p) 598 107 (n + 1)) b k' 0 z (-1) := by
  have q := XS.blk h e kd p k' h1 h2 hk hk0 hn
  rw [show (1 : Int) - 1 = 0 by decide] at q
  exact q
theorem XS.dep (h : XS M b k d z x) : M 598 100 = M 598 107 + d := by
  rw [XS.rows] at h
  obtain ⟨ht, P, D, E, ⟨g1, g2, g3, _⟩, i1, i2, i3, i4, i5, i6, i7, i8⟩ := h
  omega
theorem XS.sgle {M : jm} {b k d z x : Int} (h : XS M b k d z x) : 0 ≤ M 598 100 - M 598 107 - d ∧ 2 * M 598 90 + k ≤ 6 * M 598 89 + 4 * M 598 88 + M 598 73 := by
  have q := ES.sgle h
  simp (decide := true) only [jw_s, fu_ne, fu_eq, ne_eq, not_false_eq_true] at q
  exact ⟨q.1, q.2.2⟩
end PX
/-- the code that was there stays -/
noncomputable def CP (M0 M : jm) : Prop := M0 598 90 ≤ M 598 90 ∧ ∀ i : Int, i < M0 598 90 → M 659 i = M0 659 i
theorem CP.rfl (M : jm) : CP M M := ⟨Int.le_refl _, fun _ _ => Eq.refl _⟩
theorem CP.trans {M0 M M' : jm} (h : CP M0 M) (h' : CP M M') : CP M0 M' := ⟨Int.le_trans h.1 h'.1, fun i hi => (h'.2 i (Int.lt_of_lt_of_le hi h.1)).trans (h.2 i hi)⟩
theorem CP.f {M0 M M' : jm} (h : CP M0 M) (F : ∀ i : Int, M' 659 i = M 659 i) (g : M' 598 90 = M 598 90) : CP M0 M' := ⟨by rw [g]; exact h.1, fun i hi => (F i).trans (h.2 i hi)⟩
theorem CP.o {M0 M : jm} (h : CP M0 M) {a : Nat} {i v : Int} (h1 : 659 ≠ a) (h2 : 598 ≠ a ∨ 90 ≠ i) : CP M0 (ju M a i v) := by
  refine h.f (fun j => ju_c M v h1) ?_
  rcases h2 with h2 | h2
  · exact ju_c M v h2
  · exact ju_i M v h2
theorem CP.emit {M0 M : jm} (h : CP M0 M) {c op a : Int} (e : M 598 90 = c) : CP M0 (ju (ju (ju M 659 c op) 660 c a) 598 90 (c + 1)) := by
  subst e
  obtain ⟨h1, h2⟩ := h
  refine ⟨by rw [ju_same]; omega, fun i hi => ?_⟩
  rw [ju_c _ _ (by decide), ju_c _ _ (by decide), ju_i _ _ (by omega)]
  exact h2 i hi
noncomputable def LB (M : jm) : Prop := M 598 90 = 0 ∨ M 659 (M 598 90 - 1) ≠ 0
noncomputable def AK (M : jm) : Prop := ∀ k : Int, 0 ≤ k → k < M 598 96 → 0 ≤ M 663 k ∧ M 663 k < M 598 90 ∧ (M 659 (M 663 k) = 28 ∨ M 659 (M 663 k) = 29)
/-- the last that is asked for is still to be laid -/
noncomputable def AK2 (M : jm) : Prop := ∀ k : Int, 0 ≤ k → k < M 598 96 → (0 ≤ M 663 k ∧ M 663 k < M 598 90 ∧ (M 659 (M 663 k) = 28 ∨ M 659 (M 663 k) = 29)) ∨ M 663 k = M 598 90
theorem AK.cp {M M' : jm} (h : AK M) (c : CP M M') (F : ∀ i : Int, M' 663 i = M 663 i) (g : M' 598 96 = M 598 96) : AK M' := by
  intro k k0 k1
  rw [g] at k1
  obtain ⟨a1, a2, a3⟩ := h k k0 k1
  rw [F k]
  refine ⟨a1, by have := c.1; omega, ?_⟩
  rw [c.2 _ a2]
  exact a3
theorem AK.emit {M : jm} (h : AK M) {c op a : Int} (e : M 598 90 = c) : AK (ju (ju (ju M 659 c op) 660 c a) 598 90 (c + 1)) := h.cp (CP.emit (CP.rfl M) e) (fun i => by rw [ju_c _ _ (by decide), ju_c _ _ (by decide), ju_c _ _ (by decide)]) (by rw [ju_i _ _ (by decide), ju_c _ _ (by decide), ju_c _ _ (by decide)])
theorem AK.ask {M : jm} (h : AK M) {n c p q : Int} (e : M 598 96 = n) (e2 : M 598 90 = c) : AK2 (ju (ju (ju (ju M 661 n p) 662 n q) 663 n c) 598 96 (n + 1)) := by
  subst e
  subst e2
  intro k k0 k1
  rw [ju_same] at k1
  rw [ju_c _ _ (by decide : (663 : Nat) ≠ 598), ju_i _ _ (by decide : (90 : Int) ≠ 96), ju_c _ _ (by decide : (598 : Nat) ≠ 663), ju_c _ _ (by decide : (598 : Nat) ≠ 662), ju_c _ _ (by decide : (598 : Nat) ≠ 661), ju_c _ _ (by decide : (659 : Nat) ≠ 598), ju_c _ _ (by decide : (659 : Nat) ≠ 663), ju_c _ _ (by decide : (659 : Nat) ≠ 662), ju_c _ _ (by decide : (659 : Nat) ≠ 661)]
  by_cases v : k = M 598 96
  · rw [v, ju_same]
    exact Or.inr rfl
  · rw [ju_i _ _ v, ju_c _ _ (by decide : (663 : Nat) ≠ 662), ju_c _ _ (by decide : (663 : Nat) ≠ 661)]
    exact Or.inl (h k k0 (by omega))
theorem AK2.fr {M M' : jm} (h : AK2 M) (F : ∀ (a : Nat) (i : Int), a ≠ 598 → M' a i = M a i) (g : M' 598 96 = M 598 96) (g2 : M' 598 90 = M 598 90) : AK2 M' := by
  intro k k0 k1
  rw [F 663 _ (by decide), F 659 _ (by decide), g2]
  rw [g] at k1
  exact h k k0 k1
theorem AK2.emit {M : jm} (h : AK2 M) {c op a : Int} (e : M 598 90 = c) (h0 : 0 ≤ c) (ho : op = 28 ∨ op = 29) : AK (ju (ju (ju M 659 c op) 660 c a) 598 90 (c + 1)) := by
  subst e
  intro k k0 k1
  rw [ju_i _ _ (by decide : (96 : Int) ≠ 90), ju_c _ _ (by decide : (598 : Nat) ≠ 660), ju_c _ _ (by decide : (598 : Nat) ≠ 659)] at k1
  rw [ju_c _ _ (by decide : (663 : Nat) ≠ 598), ju_c _ _ (by decide : (663 : Nat) ≠ 660), ju_c _ _ (by decide : (663 : Nat) ≠ 659), ju_same, ju_c _ _ (by decide : (659 : Nat) ≠ 598), ju_c _ _ (by decide : (659 : Nat) ≠ 660)]
  rcases h k k0 k1 with ⟨a1, a2, a3⟩ | q
  · refine ⟨a1, by omega, ?_⟩
    rw [ju_i _ _ (by omega)]
    exact a3
  · rw [q, ju_same]
    exact ⟨h0, by omega, ho⟩
noncomputable def SGN (M : jm) : Prop := M 598 74 = 3 → M 598 79 ≠ 10 ∧ M 598 79 ≠ 11
noncomputable def DS (M : jm) (z : Int) : Prop := M 598 80 = 0 ∧ XS M 0 0 0 z (-1) ∧ M 598 89 ≤ 300 ∧ M 598 100 ≤ 12 ∧ M 598 73 ≤ M 598 72 ∧ (M 598 74 = 3 → M 598 79 ≠ 10 ∧ M 598 79 ≠ 11) ∧ LB M ∧ AK M ∧ M 598 96 ≤ M 598 89
end

