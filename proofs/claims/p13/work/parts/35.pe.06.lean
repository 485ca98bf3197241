section
/-! ===== the reference: contracts, 35.pg ===== -/
theorem XS.init {M : jm} (hf : FWq (M 650)) (h1 : M 598 88 = 0) (h2 : M 598 90 = 0) (h3 : M 598 107 = 0) (h4 : 0 ≤ M 598 89) (h5 : 0 ≤ M 598 73) : XS M 0 0 (M 598 100) 1 (-1) := by
  rw [XS.rows, h1, h2, h3]
  refine ⟨fun _ => 0, fun _ => 0, fun _ => 0, fun _ => 0, ⟨hf, rfl, rfl, rfl, by omega, by omega, by omega, by omega, by omega, by omega, by omega⟩, fun i i0 i1 => by omega, fun j j0 j1 => by omega, fun j j0 j1 => ⟨Int.le_refl _, by show (0 : Int) ≤ 0 + 2 * j; omega, Int.le_refl _, Int.le_refl _, Or.inl (by omega)⟩, fun j j0 j1 => by omega, fun c c0 c1 => by omega, by decide, by show M 598 100 = 0 + 0 + M 598 100; omega, ?_⟩
  have e : RVq 0 (M 598 101) = 0 := (RVq_1 (ib := M 598 101)).2.2
  rw [e]
  show 2 * (0 + 0) + 0 + 0 ≤ 6 * M 598 89 + 4 * 0 + M 598 73
  omega
theorem AK.zero {M : jm} (h : M 598 96 = 0) : AK M := fun k k0 k1 => by omega
/-- the machine's code -/
noncomputable def MC (M : jm) : Prop := M 598 82 = 0 ∨ ∃ (ht : Int → Int) (n : Int), 1 ≤ n ∧ n ≤ 2000 ∧ (∀ i : Int, 0 ≤ i → i < n → OPk (M 654) (M 655) (M 598 82) ht (n - 1) False i) ∧ (∀ c : Int, 0 ≤ c → c < M 598 82 → ENk (M 654) ht (n - 1) (M 652 c) ∧ (M 653 c = -1 ∨ ENk (M 654) ht (n - 1) (M 653 c))) ∧ M 654 (n - 1) = 3
theorem MC.fr {M M' : jm} (h : MC M) (e2 : ∀ i : Int, M' 652 i = M 652 i) (e3 : ∀ i : Int, M' 653 i = M 653 i) (e4 : ∀ i : Int, M' 654 i = M 654 i) (e5 : ∀ i : Int, M' 655 i = M 655 i) (g : M' 598 82 = M 598 82) : MC M' := by
  unfold MC at h ⊢
  rw [show M' 652 = M 652 from funext e2, show M' 653 = M 653 from funext e3, show M' 654 = M 654 from funext e4, show M' 655 = M 655 from funext e5, g]
  exact h
theorem MC.o {M : jm} (h : MC M) {a : Nat} {i v : Int} (h1 : a < 652 ∨ 655 < a) (h2 : a ≠ 598 ∨ i ≠ 82) : MC (ju M a i v) := by
  refine h.fr (fun j => ju_c M v (by omega)) (fun j => ju_c M v (by omega)) (fun j => ju_c M v (by omega)) (fun j => ju_c M v (by omega)) ?_
  rcases h2 with h2 | h2
  · exact ju_c M v (fun e => h2 e.symm)
  · exact ju_i M v (fun e => h2 e.symm)
/-- the parser's end: all that was laid -/
noncomputable def RD (M : jm) : Prop := XS M 0 0 0 1 (-1) ∧ M 598 107 = 0 ∧ 1 ≤ M 598 90 ∧ M 598 90 ≤ 2000 ∧ M 659 (M 598 90 - 1) = 3
theorem RD.o {M : jm} (h : RD M) {a : Nat} {i v : Int} (h1 : (652 ≤ a ∧ a ≤ 655) ∨ (a = 598 ∧ (i = 82 ∨ i = 83))) : RD (ju M a i v) := by
  obtain ⟨h0, h2, h3, h4, h5⟩ := h
  have r : ∀ c : Nat, c ≠ a → ju M a i v c = M c := fun c hc => jw_o hc
  have f : ∀ j : Int, j ≠ 82 → j ≠ 83 → ju M a i v 598 j = M 598 j := fun j j1 j2 => ju_ne M v (fun q => by omega)
  unfold RD
  rw [f 107 (by decide) (by decide), f 90 (by decide) (by decide), r 659 (by omega)]
  refine ⟨?_, h2, h3, h4, h5⟩
  rw [XS.rows] at h0 ⊢
  rw [r 650 (by omega), r 657 (by omega), r 658 (by omega), r 659 (by omega), r 660 (by omega), r 664 (by omega), r 665 (by omega), r 666 (by omega), r 667 (by omega), r 668 (by omega), r 669 (by omega), f 88 (by decide) (by decide), f 89 (by decide) (by decide), f 90 (by decide) (by decide), f 100 (by decide) (by decide), f 101 (by decide) (by decide), f 107 (by decide) (by decide), f 73 (by decide) (by decide)]
  exact h0
noncomputable def CQ (M : jm) (k : Int) : Prop := ∀ c : Int, 0 ≤ c → c < k → M 652 c = M 657 c ∧ M 653 c = M 658 c
theorem CQ.add {M : jm} {k v w : Int} (h : CQ M k) (e1 : M 657 k = v) (e2 : M 658 k = w) : CQ (ju (ju M 652 k v) 653 k w) (k + 1) := by
  intro c c0 c1
  rw [ju_c _ _ (by decide : (652 : Nat) ≠ 653), ju_c _ _ (by decide : (657 : Nat) ≠ 653), ju_c _ _ (by decide : (657 : Nat) ≠ 652), ju_c _ _ (by decide : (658 : Nat) ≠ 653), ju_c _ _ (by decide : (658 : Nat) ≠ 652)]
  by_cases q : c = k
  · subst q
    rw [ju_same, ju_same]
    exact ⟨e1.symm, e2.symm⟩
  · rw [ju_i _ _ q, ju_i _ _ q, ju_c _ _ (by decide : (653 : Nat) ≠ 652)]
    exact h c c0 (by omega)
noncomputable def CD (M : jm) (k : Int) : Prop := ∀ c : Int, 0 ≤ c → c < k → M 654 c = M 659 c ∧ M 655 c = M 660 c
theorem CD.add {M : jm} {k v w : Int} (h : CD M k) (e1 : M 659 k = v) (e2 : M 660 k = w) : CD (ju (ju M 654 k v) 655 k w) (k + 1) := by
  intro c c0 c1
  rw [ju_c _ _ (by decide : (654 : Nat) ≠ 655), ju_c _ _ (by decide : (659 : Nat) ≠ 655), ju_c _ _ (by decide : (659 : Nat) ≠ 654), ju_c _ _ (by decide : (660 : Nat) ≠ 655), ju_c _ _ (by decide : (660 : Nat) ≠ 654)]
  by_cases q : c = k
  · subst q
    rw [ju_same, ju_same]
    exact ⟨e1.symm, e2.symm⟩
  · rw [ju_i _ _ q, ju_i _ _ q, ju_c _ _ (by decide : (655 : Nat) ≠ 654)]
    exact h c c0 (by omega)
theorem CQ.o {M : jm} {k : Int} (h : CQ M k) {i v w : Int} : CQ (ju (ju M 654 i v) 655 i w) k := by
  intro c c0 c1
  rw [ju_c _ _ (by decide), ju_c _ _ (by decide), ju_c _ _ (by decide), ju_c _ _ (by decide), ju_c _ _ (by decide), ju_c _ _ (by decide), ju_c _ _ (by decide), ju_c _ _ (by decide)]
  exact h c c0 c1
theorem OPk.mono0 {co ar co' ar' ht : Int → Int} {nc nc' n cd i : Int} {pe pe' : Prop} (h : OPk co ar nc ht n pe i) (h0 : 0 ≤ i) (hi : i < cd) (hc : ∀ j, 0 ≤ j → j < cd → co' j = co j) (ha : ar' i = ar i) (hn : n ≤ cd) (hnc : nc ≤ nc') (hp : pe → pe') : OPk co' ar' nc' ht n pe' i := by
  obtain ⟨⟨a1, a2, a3, a4, a5, a6⟩, b, c, d⟩ := h
  unfold OPk
  rw [hc i h0 hi, ha]
  refine ⟨⟨a1, a2, a3, a4, a5, a6⟩, fun q => ?_, c, fun q => ?_⟩
  · rcases b q with w | ⟨w1, w2, w3, w4⟩
    · exact Or.inl (hp w)
    · refine Or.inr ⟨w1, w2, w3, ?_⟩
      rw [hc _ (by omega) (by omega)]
      exact w4
  · obtain ⟨w1, w2, w3, w4⟩ := d q
    refine ⟨w1, ?_, w3, by omega⟩
    rw [hc _ (by omega) (by omega)]
    exact w2
theorem ENk.mono0 {co co' ht : Int → Int} {n cd e : Int} (h : ENk co ht n e) (hc : ∀ j, 0 ≤ j → j < cd → co' j = co j) (hn : n ≤ cd) : ENk co' ht n e := by
  obtain ⟨a1, a2, a3, a4⟩ := h
  refine ⟨a1, a2, a3, ?_⟩
  rcases a4 with w | w
  · exact Or.inl w
  · by_cases z : e = 0
    · exact Or.inl z
    · refine Or.inr ?_
      rw [hc _ (by omega) (by omega)]
      exact w
theorem MC.make {M : jm} (h : RD M) (e : M 598 82 = M 598 88) (q : CQ M (M 598 82)) {k : Int} (c : CD M k) (hk : M 598 90 ≤ k) : MC M := by
  obtain ⟨h0, h2, h3, h4, h5⟩ := h
  rw [XS.rows] at h0
  obtain ⟨ht, P, D, E, g, i1, i2, i3, i4, i5, i6, i7, i8⟩ := h0
  have hc : ∀ j, 0 ≤ j → j < M 598 90 → M 654 j = M 659 j := fun j j0 j1 => (c j j0 (by omega)).1
  refine Or.inr ⟨ht, M 598 90, h3, h4, ?_, ?_, ?_⟩
  · intro i hi0 hi1
    refine (i1 i hi0 hi1).mono0 hi0 hi1 hc (c i hi0 (by omega)).2 (by omega) (by omega) (fun w => ?_)
    rcases w with w | w | w
    · obtain ⟨j, j0, j1, _⟩ := w
      omega
    · obtain ⟨j, j0, j1, _⟩ := w
      omega
    · omega
  · intro d d0 d1
    obtain ⟨u1, u2⟩ := q d d0 d1
    rw [u1, u2]
    obtain ⟨w1, w2⟩ := i5 d d0 (by omega)
    exact ⟨w1.mono0 hc (by omega), w2.imp (fun z => z) (fun z => z.mono0 hc (by omega))⟩
  · rw [hc _ (by omega) (by omega)]
    exact h5
end
