section
theorem FR.o {W : List (Nat × Nat)} {T M : jm} (h : FR W T M) {a K : Nat} {i v : Int} (hk : kd a = K) (h0 : kw W K i = true) : FR W T (ju M a i v) := fun b k hb => (ju_ne M v (fun q => by rw [q.1, q.2, hk, h0] at hb; exact absurd hb (by decide))).trans (h b k hb)
theorem FR.t {W V : List (Nat × Nat)} {T M M' : jm} (h : FR W T M) (h2 : FR V M M') (hs : ∀ (K : Nat) (i : Int), kw V K i = true → kw W K i = true) : FR W T M' := fun b k hb => (h2 b k (by
  cases e : kw V (kd b) k with
  | false => rfl
  | true => rw [hs _ _ e] at hb; exact absurd hb (by decide))).trans (h b k hb)
theorem kw_mem {W : List (Nat × Nat)} {u : Nat × Nat} {K : Nat} {i : Int} (h : u ∈ W) (h1 : kh u K i = true) : kw W K i = true := by
  induction W with
  | nil => exact absurd h (by simp)
  | cons x r ih =>
    unfold kw
    rcases List.mem_cons.mp h with q | q
    · rw [← q, h1]; rfl
    · rw [ih q]; simp
noncomputable def ksub (V W : List (Nat × Nat)) : Bool := V.all (fun w => W.any (fun u => Nat.beq w.1 u.1 && (Nat.beq u.2 1000 || Nat.beq w.2 u.2)))
theorem kw_sub {V W : List (Nat × Nat)} (h : ksub V W = true) : ∀ (K : Nat) (i : Int), kw V K i = true → kw W K i = true := by
  intro K i
  induction V with
  | nil => intro q; exact absurd q (by simp [kw])
  | cons w r ih =>
    intro q
    unfold ksub at h
    rw [List.all_cons, Bool.and_eq_true] at h
    unfold kw at q
    rw [Bool.or_eq_true] at q
    rcases q with q | q
    · obtain ⟨u, hu, h2⟩ := List.any_eq_true.mp h.1
      refine kw_mem hu ?_
      unfold kh at q ⊢
      rw [Bool.and_eq_true, Bool.or_eq_true] at q h2 ⊢
      have e1 := Nat.eq_of_beq_eq_true q.1
      have e2 := Nat.eq_of_beq_eq_true h2.1
      refine ⟨by rw [← e1, e2]; exact Nat.beq_refl _, ?_⟩
      rcases h2.2 with h3 | h3
      · exact Or.inl h3
      · have e3 := Nat.eq_of_beq_eq_true h3
        rw [← e3]
        exact q.2
    · exact ih h.2 q
noncomputable def ksep (W S : List (Nat × Nat)) : Bool := W.all (fun w => S.all (fun s => !(Nat.beq w.1 s.1 && (Nat.beq w.2 1000 || (Nat.beq s.2 1000 || Nat.beq w.2 s.2)))))
theorem kw_sep {W S : List (Nat × Nat)} (h : ksep W S = true) {K j : Nat} (hs : (K, j) ∈ S) (i : Int) (hi : j = 1000 ∨ i.toNat = j) : kw W K i = false := by
  induction W with
  | nil => rfl
  | cons w r ih =>
    unfold ksep at h
    rw [List.all_cons, Bool.and_eq_true] at h
    have h1 := List.all_eq_true.mp h.1 _ hs
    unfold kw
    rw [ih h.2, Bool.or_false]
    unfold kh
    simp only [Bool.not_eq_true'] at h1
    cases e1 : Nat.beq w.1 K with
    | false => rfl
    | true =>
      rw [e1, Bool.true_and] at h1
      rw [Bool.or_eq_false_iff, Bool.or_eq_false_iff] at h1
      rcases hi with hj | hj
      · subst hj
        exact absurd h1.2.1 (by decide)
      · rw [hj, h1.1, h1.2.2]
        rfl
theorem FR.s {W S : List (Nat × Nat)} {T M : jm} (h : FR W T M) (h1 : ksep W S = true) {a K : Nat} (hk : kd a = K) (j : Nat) (hs : (K, j) ∈ S) (i : Int) (hi : j = 1000 ∨ i.toNat = j) : M a i = T a i := h a i (by rw [hk]; exact kw_sep h1 hs i hi)
end
