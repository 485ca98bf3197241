section
noncomputable def cir_3 (j : Nat) : Option (Int × Int) := bif Nat.blt j 50 then (bif Nat.blt j 48 then (bif Nat.beq j 46 then some (((-2147483648 : Int), (2147483647 : Int))) else none) else (bif Nat.blt j 49 then (bif Nat.beq j 48 then some (((-2147483648 : Int), (2147483647 : Int))) else none) else (bif Nat.beq j 49 then some (((-2147483648 : Int), (2147483647 : Int))) else none))) else (bif Nat.blt j 53 then (bif Nat.blt j 51 then (bif Nat.beq j 50 then some (((-2147483648 : Int), (2147483647 : Int))) else none) else (bif Nat.beq j 51 then some (((-2147483648 : Int), (2147483647 : Int))) else none)) else (bif Nat.blt j 54 then (bif Nat.beq j 53 then some (((-9223372036854775808 : Int), (9223372036854775807 : Int))) else none) else (bif Nat.beq j 54 then some (((-9223372036854775808 : Int), (9223372036854775807 : Int))) else none)))
noncomputable def cir (j : Nat) : Option (Int × Int) := bif Nat.blt j 31 then (bif Nat.blt j 16 then (cir_0 j) else (cir_1 j)) else (bif Nat.blt j 46 then (cir_2 j) else (cir_3 j))
noncomputable def cio (K : Nat) (j : Nat) : Option (Int × Int) := bif Nat.beq K 1 then cio_1 j else bif Nat.beq K 9 then cio_9 j else bif Nat.beq K 14 then cio_14 j else bif Nat.beq K 15 then cio_15 j else bif Nat.beq K 18 then cio_18 j else bif Nat.beq K 22 then cio_22 j else bif Nat.beq K 27 then cio_27 j else bif Nat.beq K 33 then cio_33 j else bif Nat.beq K 35 then cio_35 j else bif Nat.beq K 44 then cio_44 j else bif Nat.beq K 47 then cio_47 j else bif Nat.beq K 52 then cio_52 j else none
noncomputable def cob (K : Nat) : Bool := Nat.beq K 1 || Nat.beq K 9 || Nat.beq K 14 || Nat.beq K 15 || Nat.beq K 18 || Nat.beq K 22 || Nat.beq K 27 || Nat.beq K 33 || Nat.beq K 35 || Nat.beq K 44 || Nat.beq K 47 || Nat.beq K 52
noncomputable def xcv_1 (i : Int) : Int := (xv_1.getD i.toNat 0).toInt
theorem xcq_1 : ∀ j : Nat, j < 12 → (1 : Int) ≤ (xv_1.getD j 0).toInt ∧ (xv_1.getD j 0).toInt ≤ (24 : Int) := by decide +kernel
theorem xcr_1 {i : Int} (h0 : 0 ≤ i) (h1 : i < 12) : (1 : Int) ≤ xcv_1 i ∧ xcv_1 i ≤ (24 : Int) := xcq_1 i.toNat (by omega)
noncomputable def xcv_2 (i : Int) : Int := (xv_2.getD i.toNat 0).toInt
theorem xcq_2 : ∀ j : Nat, j < 12 → (1 : Int) ≤ (xv_2.getD j 0).toInt ∧ (xv_2.getD j 0).toInt ≤ (11 : Int) := by decide +kernel
theorem xcr_2 {i : Int} (h0 : 0 ≤ i) (h1 : i < 12) : (1 : Int) ≤ xcv_2 i ∧ xcv_2 i ≤ (11 : Int) := xcq_2 i.toNat (by omega)
noncomputable def xcv_3 (i : Int) : Int := (xv_3.getD i.toNat 0).toInt
theorem xcq_3 : ∀ j : Nat, j < 12 → (0 : Int) ≤ (xv_3.getD j 0).toInt ∧ (xv_3.getD j 0).toInt ≤ (51 : Int) := by decide +kernel
theorem xcr_3 {i : Int} (h0 : 0 ≤ i) (h1 : i < 12) : (0 : Int) ≤ xcv_3 i ∧ xcv_3 i ≤ (51 : Int) := xcq_3 i.toNat (by omega)
noncomputable def xcv_4 (i : Int) : Int := (xv_4.getD i.toNat 0).toInt
theorem xcq_4 : ∀ j : Nat, j < 204 → (0 : Int) ≤ (xv_4.getD j 0).toInt ∧ (xv_4.getD j 0).toInt ≤ (64 : Int) := by decide +kernel
theorem xcr_4 {i : Int} (h0 : 0 ≤ i) (h1 : i < 204) : (0 : Int) ≤ xcv_4 i ∧ xcv_4 i ≤ (64 : Int) := xcq_4 i.toNat (by omega)
noncomputable def xcv_5 (i : Int) : Int := (xv_5.getD i.toNat 0).toInt
theorem xcq_5 : ∀ j : Nat, j < 100 → (0 : Int) ≤ (xv_5.getD j 0).toInt ∧ (xv_5.getD j 0).toInt ≤ (10 : Int) := by decide +kernel
theorem xcr_5 {i : Int} (h0 : 0 ≤ i) (h1 : i < 100) : (0 : Int) ≤ xcv_5 i ∧ xcv_5 i ≤ (10 : Int) := xcq_5 i.toNat (by omega)
noncomputable def xcv_6 (i : Int) : Int := (xv_6.getD i.toNat 0).toInt
theorem xcq_6 : ∀ j : Nat, j < 10 → (3 : Int) ≤ (xv_6.getD j 0).toInt ∧ (xv_6.getD j 0).toInt ≤ (200 : Int) := by decide +kernel
theorem xcr_6 {i : Int} (h0 : 0 ≤ i) (h1 : i < 10) : (3 : Int) ≤ xcv_6 i ∧ xcv_6 i ≤ (200 : Int) := xcq_6 i.toNat (by omega)
noncomputable def xcv_7 (i : Int) : Int := (xv_7.getD i.toNat 0).toInt
theorem xcq_7 : ∀ j : Nat, j < 5 → (0 : Int) ≤ (xv_7.getD j 0).toInt ∧ (xv_7.getD j 0).toInt ≤ (6 : Int) := by decide +kernel
theorem xcr_7 {i : Int} (h0 : 0 ≤ i) (h1 : i < 5) : (0 : Int) ≤ xcv_7 i ∧ xcv_7 i ≤ (6 : Int) := xcq_7 i.toNat (by omega)
noncomputable def xcv_8 (i : Int) : Int := (xv_8.getD i.toNat 0).toInt
theorem xcq_8 : ∀ j : Nat, j < 5 → (1 : Int) ≤ (xv_8.getD j 0).toInt ∧ (xv_8.getD j 0).toInt ≤ (10 : Int) := by decide +kernel
theorem xcr_8 {i : Int} (h0 : 0 ≤ i) (h1 : i < 5) : (1 : Int) ≤ xcv_8 i ∧ xcv_8 i ≤ (10 : Int) := xcq_8 i.toNat (by omega)
theorem xff0 : ∀ j : Nat, j < 11 → (xv_3.getD j 0).toInt + (xv_2.getD j 0).toInt ≤ 51 := by decide +kernel
theorem xff {i : Int} (h0 : 0 ≤ i) (h1 : i < 11) : xcv_3 i + xcv_2 i ≤ 51 := xff0 i.toNat (by omega)
theorem xf10 : ∀ j : Nat, j < 204 → j % 4 = 1 → (xv_4.getD j 0).toInt ≤ 8 := by decide +kernel
theorem xf1 {i : Int} (h0 : 0 ≤ i) (h1 : i < 204) (h2 : i % 4 = 1) : xcv_4 i ≤ 8 := xf10 i.toNat (by omega) (by omega)
theorem xt_2_2 (i : Int) : i ≠ 2 ∨ xcv_2 i = 11 := by
  by_cases h : i = 2
  · subst h; exact Or.inr rfl
  · exact Or.inl h
theorem xt_2_6 (i : Int) : i ≠ 6 ∨ xcv_2 i = 4 := by
  by_cases h : i = 6
  · subst h; exact Or.inr rfl
  · exact Or.inl h
theorem xt_3_2 (i : Int) : i ≠ 2 ∨ xcv_3 i = 6 := by
  by_cases h : i = 2
  · subst h; exact Or.inr rfl
  · exact Or.inl h
theorem xt_3_6 (i : Int) : i ≠ 6 ∨ xcv_3 i = 29 := by
  by_cases h : i = 6
  · subst h; exact Or.inr rfl
  · exact Or.inl h
theorem xt_4_47 (i : Int) : i ≠ 47 ∨ xcv_4 i = 13 := by
  by_cases h : i = 47
  · subst h; exact Or.inr rfl
  · exact Or.inl h
theorem xt_4_123 (i : Int) : i ≠ 123 ∨ xcv_4 i = 13 := by
  by_cases h : i = 123
  · subst h; exact Or.inr rfl
  · exact Or.inl h
theorem xl6 (i : Int) : i ≠ 6 ∨ xcv_1 i = 8 := by
  by_cases h : i = 6
  · subst h; exact Or.inr rfl
  · exact Or.inl h
noncomputable def ci (K : Nat) (i : Int) : Int × Int := bif Nat.beq K 24 then (bif Nat.beq i.toNat 4 then ((0 : Int), (40 : Int)) else (-2147483648, 2147483647)) else bif cob K then (cio K i.toNat).getD (-9223372036854775808, 9223372036854775807) else (cir K).getD (-9223372036854775808, 9223372036854775807)
/-- the kind that a reference that changes must name (0: no such place) -/
noncomputable def cxk (K : Nat) (i : Int) : Nat := bif Nat.beq K 18 then (bif Nat.beq i.toNat 7 then 33 else 0) else bif Nat.beq K 22 then (bif Nat.beq i.toNat 2 then 47 else bif Nat.beq i.toNat 12 then 18 else 0) else bif Nat.beq K 44 then (bif Nat.beq i.toNat 2 then 47 else 0) else 0
/-- every cell of the class is within its interval -/
noncomputable def CI (M : jm) : Prop := (∀ (a : Nat) (i : Int), kd a ≠ 0 → (ci (kd a) i).1 ≤ M a i ∧ M a i ≤ (ci (kd a) i).2) ∧ ∀ (a : Nat) (i : Int), cxk (kd a) i ≠ 0 → kd (M a i).toNat = cxk (kd a) i
theorem CI.u {M : jm} (h : CI M) {a K : Nat} {i v : Int} (hk : kd a = K) (hv : (ci K i).1 ≤ v ∧ v ≤ (ci K i).2) (h0 : cxk K i = 0) : CI (ju M a i v) := by
  refine ⟨fun b k hb => ?_, fun b k hb => ?_⟩
  · by_cases hq : b = a ∧ k = i
    · obtain ⟨rfl, rfl⟩ := hq
      rw [ju_same, hk]
      exact hv
    · rw [ju_ne M v hq]
      exact h.1 b k hb
  · by_cases hq : b = a ∧ k = i
    · obtain ⟨rfl, rfl⟩ := hq
      rw [hk] at hb
      exact absurd h0 hb
    · rw [ju_ne M v hq]
      exact h.2 b k hb
theorem CI.r {M : jm} (h : CI M) {a K : Nat} (hk : kd a = K) (h0 : K ≠ 0) (i : Int) : (ci K i).1 ≤ M a i ∧ M a i ≤ (ci K i).2 := by
  subst hk
  exact h.1 a i h0
theorem CI.x {M : jm} (h : CI M) {a K K2 : Nat} (hk : kd a = K) (i : Int) (h2 : cxk K i = K2) (h0 : K2 ≠ 0) : kd (M a i).toNat = K2 := by
  subst hk
  subst h2
  exact h.2 a i h0
theorem jval_mut {a j : Nat} {ty : FieldType} {x : Int} (ht : jref ty = true) (h : xfx a j = none) : jval a j ty x = .ref x.toNat := by
  cases ty <;> first | (exact absurd ht (by decide)) | (unfold jval; rw [h]; rfl)
theorem km_18 : ∀ a, a < 598 → kd a = 18 → xfx a 7 = none := by decide +kernel
theorem kn_18_7 {a : Nat} (h : kd a = 18) : xfx a 7 = none := km_18 a (kd_lt (by rw [h]; decide)) h
theorem ci_rep {i : Int} (h0 : 0 ≤ i) (h : i ≠ 4) : ci 24 i = (-2147483648, 2147483647) := by
  have e : Nat.beq i.toNat 4 = false := by
    cases hb : Nat.beq i.toNat 4 with
    | false => rfl
    | true => have := Nat.eq_of_beq_eq_true hb; omega
  unfold ci
  rw [e]
  rfl
theorem ci_rd (i : Int) : -2147483648 ≤ (ci 24 i).1 ∧ (ci 24 i).2 ≤ 2147483647 := by
  unfold ci
  show -2147483648 ≤ (bif Nat.beq i.toNat 4 then ((0 : Int), (40 : Int)) else (-2147483648, 2147483647)).1 ∧ (bif Nat.beq i.toNat 4 then ((0 : Int), (40 : Int)) else (-2147483648, 2147483647)).2 ≤ 2147483647
  cases Nat.beq i.toNat 4 <;> decide
theorem j_fz {v : Int} (h : 0 ≤ v ∧ v ≤ 1) : fits FieldType.boolean (Value.int (Int32.ofInt v)) = true := by
  rcases (show v = 0 ∨ v = 1 by omega) with rfl | rfl <;> rfl
/-- a reference that changes is written -/
theorem CI.w {M : jm} (h : CI M) {a K : Nat} {i v : Int} (hk : kd a = K) (hv : (ci K i).1 ≤ v ∧ v ≤ (ci K i).2) (h0 : kd v.toNat = cxk K i) : CI (ju M a i v) := by
  refine ⟨fun b k hb => ?_, fun b k hb => ?_⟩
  · by_cases hq : b = a ∧ k = i
    · obtain ⟨rfl, rfl⟩ := hq
      rw [ju_same, hk]
      exact hv
    · rw [ju_ne M v hq]
      exact h.1 b k hb
  · by_cases hq : b = a ∧ k = i
    · obtain ⟨rfl, rfl⟩ := hq
      rw [ju_same, hk]
      exact h0
    · rw [ju_ne M v hq]
      exact h.2 b k hb
theorem CI.cpy {M : jm} (h : CI M) {a d Ka Kd : Nat} {sp dp n : Int} (ha : kd a = Ka) (hd : kd d = Kd) (h0 : Ka ≠ 0) (hv : ∀ i j : Int, (ci Kd j).1 ≤ (ci Ka i).1 ∧ (ci Ka i).2 ≤ (ci Kd j).2) (hx : ∀ i : Int, cxk Kd i = 0) : CI (jcpy M a sp d dp n) := by
  refine ⟨fun b k hb => ?_, fun b k hb => ?_⟩
  · by_cases hq : b = d ∧ dp ≤ k ∧ k < dp + n
    · obtain ⟨rfl, h1, h2⟩ := hq
      rw [jcpy_in M h1 h2, hd]
      have q := CI.r h ha h0 (sp + (k - dp))
      have q2 := hv (sp + (k - dp)) k
      omega
    · rw [jcpy_ne M hq]
      exact h.1 b k hb
  · by_cases hq : b = d ∧ dp ≤ k ∧ k < dp + n
    · rw [hq.1, hd, hx] at hb
      exact absurd rfl hb
    · rw [jcpy_ne M hq]
      exact h.2 b k hb
/-- places that may be written: kind and slot (1000: every one) -/
noncomputable def kh (w : Nat × Nat) (K : Nat) (i : Int) : Bool := Nat.beq w.1 K && (Nat.beq w.2 1000 || Nat.beq w.2 i.toNat)
noncomputable def kw (W : List (Nat × Nat)) (K : Nat) (i : Int) : Bool := match W with
  | [] => false
  | w :: r => kh w K i || kw r K i
/-- all but the places of W are as in T -/
noncomputable def FR (W : List (Nat × Nat)) (T M : jm) : Prop := ∀ (a : Nat) (i : Int), kw W (kd a) i = false → M a i = T a i
theorem FR.rfl (W : List (Nat × Nat)) (M : jm) : FR W M M := fun _ _ _ => Eq.refl _
theorem FR.g {W : List (Nat × Nat)} {T M : jm} (h : FR W T M) {a K : Nat} {i : Int} (hk : kd a = K) (h0 : kw W K i = false) : M a i = T a i := h a i (by rw [hk]; exact h0)
theorem FR.o {W : List (Nat × Nat)} {T M : jm} (h : FR W T M) {a K : Nat} {i v : Int} (hk : kd a = K) (h0 : kw W K i = true) : FR W T (ju M a i v) := fun b k hb => (ju_ne M v (fun q => by rw [q.1, q.2, hk, h0] at hb; exact absurd hb (by decide))).trans (h b k hb)
theorem FR.t {W V : List (Nat × Nat)} {T M M' : jm} (h : FR W T M) (h2 : FR V M M') (hs : ∀ (K : Nat) (i : Int), kw V K i = true → kw W K i = true) : FR W T M' := fun b k hb => (h2 b k (by
  cases e : kw V (kd b) k with
  | false => rfl
  | true => rw [hs _ _ e] at hb; exact absurd hb (by decide))).trans (h b k hb)
theorem kw_mem {W : List (Nat × Nat)} {u : Nat × Nat} {K : Nat} {i : Int} (h : u ∈ W) (h1 : kh u K i = true) : kw W K i = true := by
  induction W with
  | nil => exact absurd h (by simp)
  | cons x r ih =>
    unfold kw
    rcases List.mem_cons.mp h with q | q
    · rw [← q, h1]; rfl
    · rw [ih q]; simp
noncomputable def ksub (V W : List (Nat × Nat)) : Bool := V.all (fun w => W.any (fun u => Nat.beq w.1 u.1 && (Nat.beq u.2 1000 || Nat.beq w.2 u.2)))
theorem kw_sub {V W : List (Nat × Nat)} (h : ksub V W = true) : ∀ (K : Nat) (i : Int), kw V K i = true → kw W K i = true := by
  intro K i
  induction V with
  | nil => intro q; exact absurd q (by simp [kw])
  | cons w r ih =>
    intro q
    unfold ksub at h
    rw [List.all_cons, Bool.and_eq_true] at h
    unfold kw at q
    rw [Bool.or_eq_true] at q
    rcases q with q | q
    · obtain ⟨u, hu, h2⟩ := List.any_eq_true.mp h.1
      refine kw_mem hu ?_
      unfold kh at q ⊢
      rw [Bool.and_eq_true, Bool.or_eq_true] at q h2 ⊢
      have e1 := Nat.eq_of_beq_eq_true q.1
      have e2 := Nat.eq_of_beq_eq_true h2.1
      refine ⟨by rw [← e1, e2]; exact Nat.beq_refl _, ?_⟩
      rcases h2.2 with h3 | h3
      · exact Or.inl h3
      · have e3 := Nat.eq_of_beq_eq_true h3
        rw [← e3]
        exact q.2
    · exact ih h.2 q
noncomputable def ksep (W S : List (Nat × Nat)) : Bool := W.all (fun w => S.all (fun s => !(Nat.beq w.1 s.1 && (Nat.beq w.2 1000 || (Nat.beq s.2 1000 || Nat.beq w.2 s.2)))))
theorem kw_sep {W S : List (Nat × Nat)} (h : ksep W S = true) {K j : Nat} (hs : (K, j) ∈ S) (i : Int) (hi : j = 1000 ∨ i.toNat = j) : kw W K i = false := by
  induction W with
  | nil => rfl
  | cons w r ih =>
    unfold ksep at h
    rw [List.all_cons, Bool.and_eq_true] at h
    have h1 := List.all_eq_true.mp h.1 _ hs
    unfold kw
    rw [ih h.2, Bool.or_false]
    unfold kh
    simp only [Bool.not_eq_true'] at h1
    cases e1 : Nat.beq w.1 K with
    | false => rfl
    | true =>
      rw [e1, Bool.true_and] at h1
      rw [Bool.or_eq_false_iff, Bool.or_eq_false_iff] at h1
      rcases hi with hj | hj
      · subst hj
        exact absurd h1.2.1 (by decide)
      · rw [hj, h1.1, h1.2.2]
        rfl
theorem FR.s {W S : List (Nat × Nat)} {T M : jm} (h : FR W T M) (h1 : ksep W S = true) {a K : Nat} (hk : kd a = K) (j : Nat) (hs : (K, j) ∈ S) (i : Int) (hi : j = 1000 ∨ i.toNat = j) : M a i = T a i := h a i (by rw [hk]; exact kw_sep h1 hs i hi)
/-- the headers that were read end within 400 bytes -/
noncomputable def HC (M : jm) (t : Nat) : Prop := ∀ h : Int, 0 ≤ h → h < M t 3 → (0 ≤ M (t + 2) h + M (t + 3) h ∧ M (t + 2) h + M (t + 3) h ≤ 400) ∧ ((M (t + 1) h ≠ 2 ∧ M (t + 1) h ≠ 6) ∨ 8 ≤ M (t + 2) h + M (t + 3) h)
theorem HC.z {M : jm} {t : Nat} (h : M t 3 = 0) : HC M t := fun x h0 h1 => by omega
theorem HC.fr {W : List (Nat × Nat)} {T M : jm} {t : Nat} (h : HC T t) (f : FR W T M) (k : kd t = 18) (h1 : ksep W [(18, 3), (19, 1000), (20, 1000), (21, 1000)] = true) : HC M t := by
  intro x h0 hx
  have q1 := (kf_18_0 k).2
  have q2 := (kf_18_1 k).2
  have q3 := (kf_18_2 k).2
  rw [f.s h1 k 3 (by decide) 3 (Or.inr rfl)] at hx
  rw [f.s h1 q1 1000 (by decide) x (Or.inl rfl), f.s h1 q2 1000 (by decide) x (Or.inl rfl), f.s h1 q3 1000 (by decide) x (Or.inl rfl)]
  exact h x h0 hx
theorem HC.st {M : jm} {t : Nat} {c k a s : Int} (h : HC M t) (hk : kd t = 18) (hc : M t 3 = c) (h0 : 0 ≤ a + s ∧ a + s ≤ 400) (h6 : (k ≠ 2 ∧ k ≠ 6) ∨ 8 ≤ a + s) (hc0 : 0 ≤ c) : HC (ju (ju (ju (ju M (t + 1) c k) (t + 2) c a) (t + 3) c s) t 3 (c + 1)) t := by
  have n1 : t ≠ t + 1 := by omega
  have n2 : t ≠ t + 2 := by omega
  have n3 : t ≠ t + 3 := by omega
  intro x hx0 hx
  rw [ju_same] at hx
  by_cases e : x = c
  · subst e
    simp only [ju, show t + 1 ≠ t by omega, show t + 2 ≠ t by omega, show t + 3 ≠ t by omega, false_and, and_false, if_false, if_true, and_self, true_and, show t + 1 ≠ t + 3 by omega, show t + 1 ≠ t + 2 by omega, show t + 2 ≠ t + 3 by omega]
    refine ⟨h0, ?_⟩
    rcases h6 with q | q
    · exact Or.inl q
    · exact Or.inr q
  · simp only [ju, e, and_false, if_false, show t + 1 ≠ t by omega, show t + 2 ≠ t by omega, show t + 3 ≠ t by omega, false_and]
    exact h x hx0 (by omega)
/-- what is kept of a gathering has 8 bytes at least -/
noncomputable def GC (M : jm) : Prop := ∀ a : Nat, kd a = 15 → M a 11 = -1 ∨ 8 ≤ M a 11
theorem GC.fr {W : List (Nat × Nat)} {T M : jm} (h : GC T) (f : FR W T M) (h1 : ksep W [(15, 11)] = true) : GC M := fun a ha => by
  rw [f.s h1 ha 11 (by decide) 11 (Or.inr rfl)]
  exact h a ha
theorem GC.u {M : jm} {v : Int} {a : Nat} (h : GC M) (hv : v = -1 ∨ 8 ≤ v) : GC (ju M a 11 v) := fun b hb => by
  by_cases hq : b = a
  · subst hq
    rw [ju_same]
    exact hv
  · rw [ju_c M v hq]
    exact h b hb
theorem GC.n {M : jm} {v i : Int} {a K : Nat} (h : GC M) (hk : kd a = K) (h0 : K ≠ 15) : GC (ju M a i v) := fun b hb => by
  rw [ju_c M v (kd_ne (by rw [hb, hk]; exact fun q => h0 q.symm))]
  exact h b hb
theorem GC.m {M : jm} {v i : Int} {a : Nat} (h : GC M) (h0 : (11 : Int) ≠ i) : GC (ju M a i v) := fun b hb => by
  rw [ju_i M v h0]
  exact h b hb
/-- the logs are at most so long -/
noncomputable def LC (M : jm) (L : Int) : Prop := ∀ a : Nat, kd a = 27 → M a 5 ≤ L
theorem LC.le {M : jm} {L L' : Int} (h : LC M L) (hl : L ≤ L') : LC M L' := fun a ha => Int.le_trans (h a ha) hl
theorem LC.fr {W : List (Nat × Nat)} {T M : jm} {L : Int} (h : LC T L) (f : FR W T M) (h1 : ksep W [(27, 5)] = true) : LC M L := fun a ha => by
  rw [f.s h1 ha 5 (by decide) 5 (Or.inr rfl)]
  exact h a ha
theorem LC.u {M : jm} {L v : Int} {a : Nat} (h : LC M L) (hv : v ≤ L) : LC (ju M a 5 v) L := fun b hb => by
  by_cases hq : b = a
  · subst hq
    rw [ju_same]
    exact hv
  · rw [ju_c M v hq]
    exact h b hb
theorem LC.n {M : jm} {L v i : Int} {a K : Nat} (h : LC M L) (hk : kd a = K) (h0 : K ≠ 27) : LC (ju M a i v) L := fun b hb => by
  rw [ju_c M v (kd_ne (by rw [hb, hk]; exact fun q => h0 q.symm))]
  exact h b hb
theorem LC.m {M : jm} {L v i : Int} {a : Nat} (h : LC M L) (h0 : (5 : Int) ≠ i) : LC (ju M a i v) L := fun b hb => by
  rw [ju_i M v h0]
  exact h b hb
/-- jumps of the rules that are in force name chains -/
noncomputable def PC (M : jm) : Prop := ∀ i : Int, 0 ≤ i → i < M (M 421 2).toNat 2 → (M ((M 421 2).toNat + 1) i = 8 ∨ M ((M 421 2).toNat + 1) i = 9) → 0 ≤ M ((M 421 2).toNat + 2) i ∧ M ((M 421 2).toNat + 2) i ≤ 15
theorem PC.fr {W : List (Nat × Nat)} {T M : jm} (h : PC T) (hC : CI T) (f : FR W T M) (h1 : ksep W [(22, 2), (47, 2), (51, 1000), (48, 1000)] = true) : PC M := by
  have e : M 421 2 = T 421 2 := f.s h1 (show kd 421 = 22 from rfl) 2 (by decide) 2 (Or.inr rfl)
  have k : kd (T 421 2).toNat = 47 := CI.x hC (show kd 421 = 22 from rfl) 2 rfl (by decide)
  have q1 := (kf_47_0 k).2
  have q2 := (kf_47_1 k).2
  intro i h0 hs
  rw [e] at hs ⊢
  rw [f.s h1 k 2 (by decide) 2 (Or.inr rfl)] at hs
  rw [f.s h1 q1 1000 (by decide) i (Or.inl rfl), f.s h1 q2 1000 (by decide) i (Or.inl rfl)]
  exact h i h0 hs
theorem PC.at {M : jm} (h : PC M) {v i o a : Int} (e : M 421 2 = v) (ho : o = 63 ∨ ((0 ≤ i ∧ i < M v.toNat 2) ∧ o = M (v.toNat + 1) i)) (ha : a = 0 ∨ ((0 ≤ i ∧ i < M v.toNat 2) ∧ a = M (v.toNat + 2) i)) : (o ≠ 8 ∧ o ≠ 9) ∨ (0 ≤ a ∧ a ≤ 15) := by
  rcases ho with ho | ⟨h1, h2⟩
  · left; omega
  · rcases ha with ha | ⟨h3, h4⟩
    · right; omega
    · have q := h i h1.1 (by rw [e]; exact h1.2)
      rw [e, ← h2, ← h4] at q
      by_cases h8 : o = 8 ∨ o = 9
      · exact Or.inr (q h8)
      · left; omega
theorem pk0 : ∀ a, a < 598 → kd a = 47 → a = 414 ∨ a = 429 := by decide +kernel
theorem pk {a : Nat} (h : kd a = 47) : a = 414 ∨ a = 429 := pk0 a (kd_lt (by rw [h]; decide)) h
theorem pk5 : ∀ d, d < 5 → (47 ≤ kd (414 + d) ∧ kd (414 + d) ≤ 51) ∧ 47 ≤ kd (429 + d) ∧ kd (429 + d) ≤ 51 := by decide +kernel
theorem pkd {a : Nat} (h : a = 414 ∨ a = 429) {d : Nat} (hd : d < 5) : 47 ≤ kd (a + d) ∧ kd (a + d) ≤ 51 := by
  rcases h with rfl | rfl
  · exact (pk5 d hd).1
  · exact (pk5 d hd).2
/-- the rules that are in force are G, and are not those that are being read -/
noncomputable def MP (M : jm) (G : Nat → Int → Int) : Prop := M 413 2 ≠ M 421 2 ∧ ∀ d : Nat, d < 5 → ∀ k : Int, M ((M 421 2).toNat + d) k = G d k
theorem CI.p1 {M : jm} (h : CI M) : (M 413 2).toNat = 414 ∨ (M 413 2).toNat = 429 := pk (CI.x h (show kd 413 = 44 from rfl) 2 rfl (by decide))
theorem CI.p2 {M : jm} (h : CI M) : (M 421 2).toNat = 414 ∨ (M 421 2).toNat = 429 := pk (CI.x h (show kd 421 = 22 from rfl) 2 rfl (by decide))
theorem MP.w {M : jm} {G : Nat → Int → Int} (h : MP M G) (hC : CI M) {v i x : Int} {a : Nat} (e : M 413 2 = v) (ha : v.toNat ≤ a ∧ a < v.toNat + 5) : MP (ju M a i x) G := by
  have q1 := hC.p1
  have q2 := hC.p2
  have n1 : (413 : Nat) ≠ a := by rw [← e] at ha; omega
  have n2 : (421 : Nat) ≠ a := by rw [← e] at ha; omega
  have hne := h.1
  refine ⟨by rw [ju_c M x n1, ju_c M x n2]; exact h.1, fun d hd k => ?_⟩
  rw [ju_c M x n2]
  rw [ju_c M x (by rw [← e] at ha; omega)]
  exact h.2 d hd k
theorem MP.n {M : jm} {G : Nat → Int → Int} (h : MP M G) (hC : CI M) {i x : Int} {a K : Nat} (hk : kd a = K) (h0 : K < 47 ∨ 51 < K) (h2 : i ≠ 2 ∨ (K ≠ 44 ∧ K ≠ 22)) : MP (ju M a i x) G := by
  have q2 := hC.p2
  have e1 : ju M a i x 413 2 = M 413 2 := ju_ne M x (fun q => by
    rcases h2 with r | r
    · exact r q.2.symm
    · exact r.1 (by rw [← hk, ← q.1]; rfl))
  have e2 : ju M a i x 421 2 = M 421 2 := ju_ne M x (fun q => by
    rcases h2 with r | r
    · exact r q.2.symm
    · exact r.2 (by rw [← hk, ← q.1]; rfl))
  refine ⟨by rw [e1, e2]; exact h.1, fun d hd k => ?_⟩
  rw [e2, ju_c M x (fun q => by
    have r := pkd q2 hd
    rw [q, hk] at r
    omega)]
  exact h.2 d hd k
theorem MP.fr {W : List (Nat × Nat)} {T M : jm} {G : Nat → Int → Int} (h : MP T G) (hC : CI T) (f : FR W T M) (h1 : ksep W [(44, 2), (22, 2), (47, 1000), (48, 1000), (49, 1000), (50, 1000), (51, 1000)] = true) : MP M G := by
  have q2 := hC.p2
  have e1 : M 413 2 = T 413 2 := f.s h1 (show kd 413 = 44 from rfl) 2 (by decide) 2 (Or.inr rfl)
  have e2 : M 421 2 = T 421 2 := f.s h1 (show kd 421 = 22 from rfl) 2 (by decide) 2 (Or.inr rfl)
  refine ⟨by rw [e1, e2]; exact h.1, fun d hd k => ?_⟩
  rw [e2]
  have r := pkd q2 hd
  have e3 : M ((T 421 2).toNat + d) k = T ((T 421 2).toNat + d) k := by
    obtain ⟨K, hK⟩ : ∃ K, kd ((T 421 2).toNat + d) = K := ⟨_, rfl⟩
    rw [hK] at r
    refine f.s h1 hK 1000 ?_ k (Or.inl rfl)
    rcases (show K = 47 ∨ K = 48 ∨ K = 49 ∨ K = 50 ∨ K = 51 by omega) with rfl | rfl | rfl | rfl | rfl <;> decide
  rw [e3]
  exact h.2 d hd k
theorem PC.mp {T M : jm} {G : Nat → Int → Int} (h : PC T) (h1 : MP T G) (h2 : MP M G) (e : M 421 2 = T 421 2) : PC M := by
  have g : ∀ d : Nat, d < 5 → ∀ k : Int, M ((T 421 2).toNat + d) k = T ((T 421 2).toNat + d) k := fun d hd k => by
    have := h2.2 d hd k
    rw [e] at this
    rw [this, h1.2 d hd k]
  intro i h0 hs
  rw [e] at hs ⊢
  have g0 := g 0 (by decide) 2
  rw [Nat.add_zero] at g0
  rw [g0] at hs
  rw [g 1 (by decide), g 2 (by decide)]
  exact h i h0 hs
/-- rules whose jumps name chains -/
noncomputable def PG (G : Nat → Int → Int) : Prop := ∀ i : Int, 0 ≤ i → i < G 0 2 → (G 1 i = 8 ∨ G 1 i = 9) → 0 ≤ G 2 i ∧ G 2 i ≤ 15
theorem PC.g {M : jm} {G : Nat → Int → Int} (h : MP M G) (hg : PG G) : PC M := by
  intro i h0 hs
  have g0 := h.2 0 (by decide) 2
  rw [Nat.add_zero] at g0
  rw [g0] at hs
  rw [h.2 1 (by decide), h.2 2 (by decide)]
  exact hg i h0 hs
theorem PG.o {M : jm} (h : PC M) : PG (fun d k => M ((M 421 2).toNat + d) k) := fun i h0 hs => h i h0 hs
/-- jumps before place k of the rules that are read name chains, or they are refused -/
noncomputable def JR (M : jm) (k : Int) : Prop := M 413 0 ≠ 0 ∨ ∀ j : Int, 0 ≤ j → j < k → (M ((M 413 2).toNat + 1) j = 8 ∨ M ((M 413 2).toNat + 1) j = 9) → 0 ≤ M ((M 413 2).toNat + 2) j ∧ M ((M 413 2).toNat + 2) j ≤ 15
noncomputable def PR (M : jm) : Prop := JR M (M (M 413 2).toNat 2)
theorem JR.z (M : jm) : JR M 0 := Or.inr (fun j h0 h1 => by omega)
theorem JR.f {M : jm} {k : Int} (h : M 413 0 ≠ 0) : JR M k := Or.inl h
theorem PR.f {M : jm} (h : M 413 0 ≠ 0) : PR M := Or.inl h
theorem JR.e {M : jm} {i v u : Int} (h : JR M i) (e : M 413 2 = v) (e2 : M v.toNat 2 = u) (hu : u ≤ i) : PR M := by
  rcases h with h | h
  · exact Or.inl h
  · refine Or.inr (fun j h0 h1 => h j h0 ?_)
    rw [e, e2] at h1
    omega
theorem JR.n {M : jm} {i v o : Int} (h : JR M i) (e : M 413 2 = v) (ho : o = M (v.toNat + 1) i) (hn : o ≠ 8 ∧ o ≠ 9) : JR M (i + 1) := by
  rcases h with h | h
  · exact Or.inl h
  · refine Or.inr (fun j h0 h1 h2 => ?_)
    by_cases q : j = i
    · subst q
      rw [e, ← ho] at h2
      omega
    · exact h j h0 (by omega) h2
theorem JR.w {M : jm} {i v c : Int} (h : JR M i) (hC : CI M) (e : M 413 2 = v) (hc : 0 ≤ c ∧ c ≤ 15) : JR (ju M (v.toNat + 2) i c) (i + 1) := by
  have q1 := hC.p1
  rw [e] at q1
  have n1 : (413 : Nat) ≠ v.toNat + 2 := by omega
  rcases h with h | h
  · exact Or.inl (by rw [ju_c M c n1]; exact h)
  · refine Or.inr (fun j h0 h1 h2 => ?_)
    rw [ju_c M c n1, e] at h2 ⊢
    rw [ju_c M c (show v.toNat + 1 ≠ v.toNat + 2 by omega)] at h2
    by_cases q : j = i
    · subst q
      rw [ju_same]
      exact hc
    · rw [ju_i M c q]
      have r := h j h0 (by omega)
      rw [e] at r
      exact r h2
theorem PC.sw {M : jm} {u v : Int} (h : PR M) (hC : CI M) (h0 : M 413 0 = 0) (e : M 413 2 = v) : PC (ju (ju M 421 2 v) 413 2 u) := by
  have q1 := hC.p1
  rw [e] at q1
  have e1 : ju (ju M 421 2 v) 413 2 u 421 2 = v := by rw [ju_c _ u (by decide), ju_same]
  have g : ∀ d : Nat, d < 5 → ∀ k : Int, ju (ju M 421 2 v) 413 2 u (v.toNat + d) k = M (v.toNat + d) k := fun d hd k => by rw [ju_c _ u (by omega), ju_c M v (by omega)]
  intro i hi hs
  rw [e1] at hs ⊢
  have g0 := g 0 (by decide) 2
  rw [Nat.add_zero] at g0
  rw [g0] at hs
  rw [g 1 (by decide), g 2 (by decide)]
  rcases h with h | h
  · exact absurd h0 h
  · rw [e] at h
    exact h i hi hs
end
