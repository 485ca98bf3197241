/-! ===== the reference: the small methods, packed ===== -/
noncomputable def zwr (x : Int) : Int := if x = 4 then 1 else 2
theorem zwr_4 {x : Int} (h : x = 4) : zwr x = 1 := if_pos h
theorem zwr_n {x : Int} (h : x ≠ 4) : zwr x = 2 := if_neg h
/-- where the machine stands, as posts -/
noncomputable def ZFQ (f : Int → Int) (N : Int) (xs : ZS) (M : jm) : Prop := M 598 80 ≠ 0 → zr f N xs (zft (M 598 80) (M 598 81))
noncomputable def ZOQ (f : Int → Int) (N : Int) (xs : ZS) (m : Int) (M : jm) (c bh : Int) (s : List (Int × Int × Int × Int)) (nm ak : List Int) : Prop := M 598 80 = 0 → ZOP f N xs m M c bh s nm ak
noncomputable def ZEQQ (f : Int → Int) (N : Int) (xs : ZS) (M : jm) (bh : Int) (s : List (Int × Int × Int × Int)) (nm ak : List Int) : Prop := M 598 80 = 0 → ZEP f N xs M bh s nm ak
noncomputable def K8Q (M M' : jm) : Prop := M' 598 80 = 0 → M' 598 81 = M 598 81
section ZK
variable {f : Int → Int} {N : Int} {M M' : jm} {v c t : Int} {x : ZS}
theorem zr.rfz {w' p' : Int} (h : zr f N x (zrf f N t)) (e : w' = zwr (zso f N t)) (e2 : p' = t) : zr f N x (zft w' p') := h.rfe e e2
theorem TKr.oo {i : Int} (h : TKr f N t M) (hi : i < 72 ∨ 79 < i) : TKr f N t (ju M 598 i v) := h.fr (ju_i _ _ (by omega)) (fun j => ju_c _ _ (by decide)) (fun j => ju_c _ _ (by decide)) (fun j => ju_c _ _ (by decide)) (ju_i _ _ (by omega)) (ju_i _ _ (by omega)) (ju_i _ _ (by omega)) (ju_i _ _ (by omega)) (ju_i _ _ (by omega)) (ju_i _ _ (by omega)) (ju_i _ _ (by omega))
theorem TKr.cc {i : Int} {a : Nat} (h : TKr f N t M) (h1 : (598 : Nat) ≠ a) (h2 : (651 : Nat) ≠ a) (h3 : (649 : Nat) ≠ a) (h4 : (650 : Nat) ≠ a) : TKr f N t (ju M a i v) := h.fr (ju_c _ _ h1) (fun j => ju_c _ _ h2) (fun j => ju_c _ _ h3) (fun j => ju_c _ _ h4) (ju_c _ _ h1) (ju_c _ _ h1) (ju_c _ _ h1) (ju_c _ _ h1) (ju_c _ _ h1) (ju_c _ _ h1) (ju_c _ _ h1)
theorem TKr.nx2 {S : jm} (h : TKr f N t S) (w : TKr f N (zsp zbl f N (S 598 73)) M) : TKr f N (znx f N t) M := TKr.nx w h.2.2.2.1
/-- the token's sort, place -/
theorem TKr.kz (h : TKr f N t M) : (0 ≤ t ∧ t ≤ N) ∧ M 598 75 = t ∧ M 598 74 = zso f N t ∧ M 598 72 = N := ⟨h.2.1, h.2.2.1, h.2.2.2.2.1, h.1.1⟩
theorem TKr.wz (h : TKr f N t M) (e : M 598 74 = 1) : zso f N t = 1 ∧ M 598 76 = zwd f N t ∧ M 598 77 = znm f N t := by
  have h1 : zso f N t = 1 := h.2.2.2.2.1.symm.trans e
  exact ⟨h1, h.2.2.2.2.2.1 h1⟩
theorem TKr.uz (h : TKr f N t M) (e : M 598 74 = 2) : zso f N t = 2 ∧ M 598 78 = znu f N t := by
  have h1 : zso f N t = 2 := h.2.2.2.2.1.symm.trans e
  exact ⟨h1, h.2.2.2.2.2.2.1 h1⟩
theorem TKr.sz (h : TKr f N t M) (e : M 598 74 = 3) : zso f N t = 3 ∧ M 598 79 = f t := by
  have h1 : zso f N t = 3 := h.2.2.2.2.1.symm.trans e
  exact ⟨h1, h.2.2.2.2.2.2.2 h1⟩
theorem TKr.sy (h : TKr f N t M) (e : M 598 74 = 3) (e9 : M 598 79 = c) : zso f N t = 3 ∧ f t = c := ⟨(h.sz e).1, (h.sz e).2.symm.trans e9⟩
theorem TKr.sn (h : TKr f N t M) (e : M 598 74 ≠ 3 ∨ M 598 79 ≠ c) : ¬ (zso f N t = 3 ∧ f t = c) := by
  intro q
  have e4 : M 598 74 = 3 := h.2.2.2.2.1.trans q.1
  rcases e with e | e
  · exact e e4
  · exact e ((h.sz e4).2.trans q.2)
/-- a node is counted -/
noncomputable def NDQ (M M' : jm) : Prop := (M 598 89 < 300 ∧ M' 598 80 = 0 ∧ M' 598 81 = M 598 81) ∨ (M 598 89 = 300 ∧ M' 598 80 = 3 ∧ M' 598 81 = M 598 75)
theorem NDQ.mk (h0 : M 598 80 = 0) (h9 : M 598 89 ≤ 300) (w3 : M 598 89 < 300 → M' 598 80 = M 598 80 ∧ M' 598 81 = M 598 81) (w4 : M 598 80 = 0 → M 598 89 = 300 → M' 598 80 = 3 ∧ M' 598 81 = M 598 75) : NDQ M M' := by
  by_cases q : M 598 89 < 300
  · exact Or.inl ⟨q, (w3 q).1.trans h0, (w3 q).2⟩
  · exact Or.inr ⟨by omega, w4 h0 (by omega)⟩
theorem NDQ.yt (h : NDQ M M') (e : M' 598 80 = 0) : M 598 89 < 300 ∧ M' 598 81 = M 598 81 := by
  rcases h with h | h
  · exact ⟨h.1, h.2.2⟩
  · exact absurd (h.2.1.symm.trans e) (by decide)
theorem NDQ.yf (h : NDQ M M') (e : M' 598 80 ≠ 0) : M 598 89 = 300 ∧ M' 598 80 = 3 ∧ M' 598 81 = M 598 75 := by
  rcases h with h | h
  · exact absurd h.2.1 e
  · exact h
/-- a sign is wanted -/
noncomputable def WTQ (f : Int → Int) (N c : Int) (M M' : jm) : Prop := ((M 598 74 = 3 ∧ M 598 79 = c) ∧ M' 598 80 = 0 ∧ (M' 598 81 = M 598 81 ∧ TK M' < TK M) ∧ TKr f N (zsp zbl f N (M 598 73)) M') ∨ ((M 598 74 ≠ 3 ∨ M 598 79 ≠ c) ∧ M' 598 80 ≠ 0 ∧ M' 598 80 = zwr (M 598 74) ∧ M' 598 81 = M 598 75)
theorem zwr_mk (h9 : M 598 74 = 4 → M' 598 80 = 1) (h10 : M 598 74 ≠ 4 → M' 598 80 = 2) : M' 598 80 = zwr (M 598 74) := by
  by_cases q : M 598 74 = 4
  · rw [zwr_4 q]
    exact h9 q
  · rw [zwr_n q]
    exact h10 q
theorem WTQ.mk (h0 : M 598 80 = 0) (w4 : M' 598 80 = 0 → TK M' < TK M) (w6 : M 598 80 = 0 → M 598 74 = 3 → M 598 79 = c → M' 598 80 = 0) (w7 : M' 598 80 = 0 → TKr f N (zsp zbl f N (M 598 73)) M') (w8 : M 598 80 = 0 → (M 598 74 ≠ 3 ∨ M 598 79 ≠ c) → M' 598 80 ≠ 0 ∧ M' 598 81 = M 598 75) (w9 : M 598 80 = 0 → (M 598 74 ≠ 3 ∨ M 598 79 ≠ c) → M 598 74 = 4 → M' 598 80 = 1) (w10 : M 598 80 = 0 → (M 598 74 ≠ 3 ∨ M 598 79 ≠ c) → M 598 74 ≠ 4 → M' 598 80 = 2) (w13 : M' 598 80 = 0 → M' 598 81 = M 598 81) : WTQ f N c M M' := by
  by_cases q : M 598 74 = 3 ∧ M 598 79 = c
  · have e := w6 h0 q.1 q.2
    exact Or.inl ⟨q, e, ⟨w13 e, w4 e⟩, w7 e⟩
  · have q2 : M 598 74 ≠ 3 ∨ M 598 79 ≠ c := by omega
    exact Or.inr ⟨q2, (w8 h0 q2).1, zwr_mk (w9 h0 q2) (w10 h0 q2), (w8 h0 q2).2⟩
theorem WTQ.yt (h : WTQ f N c M M') (hK : TKr f N t M) (e : M' 598 80 = 0) : (zso f N t = 3 ∧ f t = c) ∧ M' 598 81 = M 598 81 ∧ TK M' < TK M := by
  rcases h with h | h
  · exact ⟨hK.sy h.1.1 h.1.2, h.2.2.1⟩
  · exact absurd e h.2.1
theorem WTQ.yk (h : WTQ f N c M M') (hK : TKr f N t M) (e : M' 598 80 = 0) : TKr f N (znx f N t) M' := by
  rcases h with h | h
  · exact hK.nx2 h.2.2.2
  · exact absurd e h.2.1
theorem WTQ.yf (h : WTQ f N c M M') (hK : TKr f N t M) (e : M' 598 80 ≠ 0) : ¬ (zso f N t = 3 ∧ f t = c) ∧ M' 598 80 = zwr (zso f N t) ∧ M' 598 81 = t := by
  rcases h with h | h
  · exact absurd h.2.1 e
  · exact ⟨hK.sn h.1, by rw [← hK.kz.2.2.1]; exact h.2.2.1, h.2.2.2.trans hK.kz.2.1⟩
theorem WTQ.yd (h : WTQ f N c M M') : M' 598 80 ≠ 0 ∨ (M' 598 81 = M 598 81 ∧ TK M' < TK M) := by
  rcases h with h | h
  · exact Or.inr h.2.2.1
  · exact Or.inl h.2.1
/-- deeper -/
noncomputable def DPQ (f : Int → Int) (N : Int) (M M' : jm) : Prop := (M 598 100 < 12 ∧ M' 598 80 = 0 ∧ (M' 598 81 = M 598 81 ∧ TK M' < TK M) ∧ TKr f N (zsp zbl f N (M 598 73)) M') ∨ (M 598 100 = 12 ∧ M' 598 80 = 3 ∧ M' 598 81 = M 598 75)
theorem DPQ.mk (h0 : M 598 80 = 0) (h9 : M 598 100 ≤ 12) (h4 : M 598 74 ≠ 0) (w6 : M' 598 80 = 0 → M 598 74 ≠ 0 → TK M' < TK M) (w8 : M 598 80 = 0 → M 598 100 < 12 → M' 598 80 = 0) (w9 : M' 598 80 = 0 → TKr f N (zsp zbl f N (M 598 73)) M') (w10 : M 598 80 = 0 → M 598 100 = 12 → M' 598 80 = 3 ∧ M' 598 81 = M 598 75) (w13 : M' 598 80 = 0 → M' 598 81 = M 598 81) : DPQ f N M M' := by
  by_cases q : M 598 100 < 12
  · have e := w8 h0 q
    exact Or.inl ⟨q, e, ⟨w13 e, w6 e h4⟩, w9 e⟩
  · exact Or.inr ⟨by omega, w10 h0 (by omega)⟩
theorem DPQ.yt (h : DPQ f N M M') (e : M' 598 80 = 0) : M 598 100 < 12 ∧ M' 598 81 = M 598 81 ∧ TK M' < TK M := by
  rcases h with h | h
  · exact ⟨h.1, h.2.2.1⟩
  · exact absurd (h.2.1.symm.trans e) (by decide)
theorem DPQ.yk (h : DPQ f N M M') (hK : TKr f N t M) (e : M' 598 80 = 0) : TKr f N (znx f N t) M' := by
  rcases h with h | h
  · exact hK.nx2 h.2.2.2
  · exact absurd (h.2.1.symm.trans e) (by decide)
theorem DPQ.yf (h : DPQ f N M M') (hK : TKr f N t M) (e : M' 598 80 ≠ 0) : M 598 100 = 12 ∧ M' 598 80 = 3 ∧ M' 598 81 = t := by
  rcases h with h | h
  · exact absurd h.2.1 e
  · exact ⟨h.1, h.2.1, h.2.2.trans hK.kz.2.1⟩
theorem DPQ.yd (h : DPQ f N M M') : M' 598 80 ≠ 0 ∨ (M' 598 81 = M 598 81 ∧ TK M' < TK M ∧ M 598 100 < 12) := by
  rcases h with h | h
  · exact Or.inr ⟨h.2.2.1.1, h.2.2.1.2, h.1⟩
  · exact Or.inl (by rw [h.2.1]; decide)
/-- a sign is wanted, and deeper -/
noncomputable def WDQ (f : Int → Int) (N c : Int) (M M' : jm) : Prop := (((M 598 74 = 3 ∧ M 598 79 = c) ∧ M 598 100 < 12) ∧ M' 598 80 = 0 ∧ (M' 598 81 = M 598 81 ∧ TK M' < TK M ∧ M' 598 100 = M 598 100 + 1) ∧ TKr f N (zsp zbl f N (M 598 73)) M') ∨ ((M 598 74 = 3 ∧ M 598 79 = c) ∧ M 598 100 = 12 ∧ M' 598 80 = 3 ∧ M' 598 81 = M 598 75) ∨ ((M 598 74 ≠ 3 ∨ M 598 79 ≠ c) ∧ M' 598 80 ≠ 0 ∧ M' 598 80 = zwr (M 598 74) ∧ M' 598 81 = M 598 75)
theorem WDQ.mk (h0 : M 598 80 = 0) (h12 : M 598 100 ≤ 12) (w4 : M' 598 100 = M 598 100 + 1 ∨ (M' 598 80 ≠ 0 ∧ M' 598 100 = M 598 100)) (w7 : M' 598 80 = 0 → TK M' < TK M) (w9 : M 598 80 = 0 → M 598 74 = 3 → M 598 79 = c → M 598 100 < 12 → M' 598 80 = 0) (w10 : M' 598 80 = 0 → TKr f N (zsp zbl f N (M 598 73)) M') (w11 : M 598 80 = 0 → M 598 74 = 3 → M 598 79 = c → M 598 100 = 12 → M' 598 80 = 3 ∧ M' 598 81 = M 598 75) (w12 : M 598 80 = 0 → (M 598 74 ≠ 3 ∨ M 598 79 ≠ c) → M' 598 80 ≠ 0 ∧ M' 598 81 = M 598 75) (w13 : M 598 80 = 0 → (M 598 74 ≠ 3 ∨ M 598 79 ≠ c) → M 598 74 = 4 → M' 598 80 = 1) (w14 : M 598 80 = 0 → (M 598 74 ≠ 3 ∨ M 598 79 ≠ c) → M 598 74 ≠ 4 → M' 598 80 = 2) (w17 : M' 598 80 = 0 → M' 598 81 = M 598 81) : WDQ f N c M M' := by
  by_cases q : M 598 74 = 3 ∧ M 598 79 = c
  · by_cases q3 : M 598 100 < 12
    · have e := w9 h0 q.1 q.2 q3
      refine Or.inl ⟨⟨q, q3⟩, e, ⟨w17 e, w7 e, ?_⟩, w10 e⟩
      rcases w4 with z | z
      · exact z
      · exact absurd e z.1
    · exact Or.inr (Or.inl ⟨q, by omega, w11 h0 q.1 q.2 (by omega)⟩)
  · have q2 : M 598 74 ≠ 3 ∨ M 598 79 ≠ c := by omega
    exact Or.inr (Or.inr ⟨q2, (w12 h0 q2).1, zwr_mk (w13 h0 q2) (w14 h0 q2), (w12 h0 q2).2⟩)
theorem WDQ.yn (h : (M 598 74 = 3 ∧ M 598 79 = c) ∧ M 598 100 = 12 ∧ M' 598 80 = 3 ∧ M' 598 81 = M 598 75 ∨ ((M 598 74 ≠ 3 ∨ M 598 79 ≠ c) ∧ M' 598 80 ≠ 0 ∧ M' 598 80 = zwr (M 598 74) ∧ M' 598 81 = M 598 75)) : M' 598 80 ≠ 0 := by
  rcases h with h | h
  · rw [h.2.2.1]
    decide
  · exact h.2.1
theorem WDQ.yt (h : WDQ f N c M M') (hK : TKr f N t M) (e : M' 598 80 = 0) : ((zso f N t = 3 ∧ f t = c) ∧ M 598 100 < 12) ∧ M' 598 81 = M 598 81 ∧ TK M' < TK M ∧ M' 598 100 = M 598 100 + 1 := by
  rcases h with h | h
  · exact ⟨⟨hK.sy h.1.1.1 h.1.1.2, h.1.2⟩, h.2.2.1⟩
  · exact absurd e (WDQ.yn h)
theorem WDQ.yk (h : WDQ f N c M M') (hK : TKr f N t M) (e : M' 598 80 = 0) : TKr f N (znx f N t) M' := by
  rcases h with h | h
  · exact hK.nx2 h.2.2.2
  · exact absurd e (WDQ.yn h)
/-- the two ways that it fails, as the machine fails -/
theorem WDQ.yf {y : ZS} (h : WDQ f N c M M') (hK : TKr f N t M) (e : M' 598 80 ≠ 0) (h1 : zso f N t = 3 ∧ f t = c → M 598 100 = 12 → zr f N y (zft 3 t)) (h2 : ¬ (zso f N t = 3 ∧ f t = c) → zr f N y (zrf f N t)) : zr f N y (zft (M' 598 80) (M' 598 81)) := by
  rcases h with h | h | h
  · exact absurd h.2.1 e
  · exact (h1 (hK.sy h.1.1 h.1.2) h.2.1).fe h.2.2.1 (h.2.2.2.trans hK.kz.2.1)
  · exact (h2 (hK.sn h.1)).rfz (by rw [← hK.kz.2.2.1]; exact h.2.2.1) (h.2.2.2.trans hK.kz.2.1)
theorem WDQ.yd (h : WDQ f N c M M') : M' 598 80 ≠ 0 ∨ (M' 598 81 = M 598 81 ∧ TK M' < TK M ∧ M' 598 100 = M 598 100 + 1 ∧ M 598 100 < 12) := by
  rcases h with h | h
  · exact Or.inr ⟨h.2.2.1.1, h.2.2.1.2.1, h.2.2.1.2.2, h.1.2⟩
  · exact Or.inl (WDQ.yn h)
/-- a wrong token -/
theorem WRQ.mk (hK : TKr f N t M) (h0 : M 598 80 = 0) (w1 : M 598 80 = 0 → M 598 74 = 4 → M' 598 80 = 1) (w2 : M 598 80 = 0 → M 598 74 ≠ 4 → M' 598 80 = 2) (w3 : M 598 80 = 0 → M' 598 81 = M 598 75) : M' 598 80 = zwr (zso f N t) ∧ M' 598 81 = t := ⟨by rw [← hK.kz.2.2.1]; exact zwr_mk (w1 h0) (w2 h0), (w3 h0).trans hK.kz.2.1⟩
end ZK
theorem c_node_z {A : Nat → Option (Nat × (Nat → Int32))} {Q : Option Value → jm → Prop} {f : Int → Int} {N : Int} {M : jm} (hI_M : RI M) (hH_M : RH M) (hS_M : RF M) (p0 : M 598 89 ≤ 300) (h0 : M 598 80 = 0) (k1 : ∀ M' : jm, RI M' → RH M' → RF M' → M' 598 89 = M 598 89 + 1 → M 598 89 < 300 → M' 598 80 = 0 → M' 598 81 = M 598 81 → (∀ (a : Nat) (i : Int), a ≠ 598 → M' a i = M a i) → (∀ (i : Int), i ≠ 80 → i ≠ 81 → i ≠ 89 → M' 598 i = M 598 i) → Q none M') (k2 : ∀ M' : jm, RI M' → RH M' → RF M' → M' 598 89 = M 598 89 + 1 → M 598 89 = 300 → M' 598 80 = 3 → M' 598 81 = M 598 75 → (∀ (a : Nat) (i : Int), a ≠ 598 → M' a i = M a i) → (∀ (i : Int), i ≠ 80 → i ≠ 81 → i ≠ 89 → M' 598 i = M 598 i) → Q none M') : jc A 2 351 [.ref (598)] M Q := r_node_z hI_M hH_M hS_M p0 (fun M' a1 a2 a3 w0 w1 w2 w3 w4 w5 w6 w7 => by
  rcases NDQ.mk h0 p0 w3 w4 with u | u
  · exact k1 M' a1 a2 a3 w0 u.1 u.2.1 u.2.2 w6 w7
  · exact k2 M' a1 a2 a3 w0 u.1 u.2.1 u.2.2 w6 w7)
theorem d_node_z {A : Nat → Option (Nat × (Nat → Int32))} {Q : Option Value → jm → Prop} {f : Int → Int} {N : Int} {M : jm} (hI_M : RI M) (hH_M : RH M) (hS_M : RF M) (p0 : M 598 89 ≤ 300) (h0 : M 598 80 ≠ 0) (k1 : ∀ M' : jm, RI M' → RH M' → RF M' → M' 598 89 = M 598 89 + 1 → M' 598 80 = M 598 80 → M' 598 81 = M 598 81 → (∀ (a : Nat) (i : Int), a ≠ 598 → M' a i = M a i) → (∀ (i : Int), i ≠ 80 → i ≠ 81 → i ≠ 89 → M' 598 i = M 598 i) → Q none M') : jc A 2 351 [.ref (598)] M Q := r_node_z hI_M hH_M hS_M p0 (fun M' a1 a2 a3 w0 w1 w2 w3 w4 w5 w6 w7 => by
  exact k1 M' a1 a2 a3 w0 (w5 h0).1 (w5 h0).2 w6 w7)
theorem c_next_z {A : Nat → Option (Nat × (Nat → Int32))} {Q : Option Value → jm → Prop} {f : Int → Int} {N : Int} {M : jm} (hI_M : RI M) (hH_M : RH M) (hS_M : RF M) {t : Int} (p0 : M 598 73 ≤ M 598 72) (hK : TKr f N t M) (h0 : M 598 80 = 0) (h4 : M 598 74 ≠ 0) (k1 : ∀ M' : jm, RI M' → RH M' → RF M' → M' 598 73 ≤ M' 598 72 → M 598 73 ≤ M' 598 73 → TK M' < TK M → (M' 598 74 = 3 → M' 598 79 ≠ 10 ∧ M' 598 79 ≠ 11) → TKr f N (znx f N t) M' → (∀ (a : Nat) (i : Int), a ≠ 598 → M' a i = M a i) → (∀ (i : Int), i ≠ 73 → i ≠ 74 → i ≠ 75 → i ≠ 76 → i ≠ 77 → i ≠ 78 → i ≠ 79 → M' 598 i = M 598 i) → Q none M') : jc A 2 344 [.ref (598)] M Q := r_next_z hI_M hH_M hS_M p0 hK.1 (fun M' a1 a2 a3 w0 w1 w2 w3 w4 w5 w6 w7 => by
  exact k1 M' a1 a2 a3 w0 w1 (w3 h4) w4 (hK.nx2 w5) w6 w7)
theorem d_next_z {A : Nat → Option (Nat × (Nat → Int32))} {Q : Option Value → jm → Prop} {f : Int → Int} {N : Int} {M : jm} (hI_M : RI M) (hH_M : RH M) (hS_M : RF M) (p0 : M 598 73 ≤ M 598 72) (hT : TXr f N M) (h0 : M 598 80 ≠ 0)  (k1 : ∀ M' : jm, RI M' → RH M' → RF M' → M' 598 73 ≤ M' 598 72 → M 598 73 ≤ M' 598 73 → TK M' ≤ TK M → TXr f N M' → (∀ (a : Nat) (i : Int), a ≠ 598 → M' a i = M a i) → (∀ (i : Int), i ≠ 73 → i ≠ 74 → i ≠ 75 → i ≠ 76 → i ≠ 77 → i ≠ 78 → i ≠ 79 → M' 598 i = M 598 i) → Q none M') : jc A 2 344 [.ref (598)] M Q := r_next_z hI_M hH_M hS_M p0 hT (fun M' a1 a2 a3 w0 w1 w2 w3 w4 w5 w6 w7 => by
  exact k1 M' a1 a2 a3 w0 w1 w2 w5.1 w6 w7)
theorem c_want_z {A : Nat → Option (Nat × (Nat → Int32))} {Q : Option Value → jm → Prop} {f : Int → Int} {N : Int} {M : jm} (hI_M : RI M) (hH_M : RH M) (hS_M : RF M) {c : Int} (h_c : 0 ≤ c ∧ c ≤ 255) {t : Int} (p0 : M 598 73 ≤ M 598 72) (hK : TKr f N t M) (h0 : M 598 80 = 0) (hs : (M 598 74 = 3 → M 598 79 ≠ 10 ∧ M 598 79 ≠ 11)) (k1 : ∀ M' : jm, RI M' → RH M' → RF M' → M' 598 73 ≤ M' 598 72 → M 598 73 ≤ M' 598 73 → TK M' < TK M → (M' 598 74 = 3 → M' 598 79 ≠ 10 ∧ M' 598 79 ≠ 11) → M' 598 80 = 0 → M' 598 81 = M 598 81 → (zso f N t = 3 ∧ f t = c) → TKr f N (znx f N t) M' → (∀ (a : Nat) (i : Int), a ≠ 598 → M' a i = M a i) → (∀ (i : Int), i ≠ 73 → i ≠ 74 → i ≠ 75 → i ≠ 76 → i ≠ 77 → i ≠ 78 → i ≠ 79 → i ≠ 80 → i ≠ 81 → M' 598 i = M 598 i) → Q none M') (k2 : ∀ M' : jm, RI M' → RH M' → RF M' → M' 598 73 ≤ M' 598 72 → M 598 73 ≤ M' 598 73 → TK M' ≤ TK M → M' 598 80 ≠ 0 → M' 598 80 = zwr (zso f N t) → M' 598 81 = t → ¬ (zso f N t = 3 ∧ f t = c) → TXr f N M' → (∀ (a : Nat) (i : Int), a ≠ 598 → M' a i = M a i) → (∀ (i : Int), i ≠ 73 → i ≠ 74 → i ≠ 75 → i ≠ 76 → i ≠ 77 → i ≠ 78 → i ≠ 79 → i ≠ 80 → i ≠ 81 → M' 598 i = M 598 i) → Q none M') : jc A 3 348 [.ref (598), .int (Int32.ofInt (c))] M Q := r_want_z hI_M hH_M hS_M h_c p0 hK.1 (fun M' a1 a2 a3 w0 w1 w2 w3 w4 w5 w6 w7 w8 w9 w10 w11 w12 w13 w14 w15 => by
  have pk := WTQ.mk h0 w4 w6 w7 w8 w9 w10 w13
  by_cases e : M' 598 80 = 0
  · have u := pk.yt hK e
    exact k1 M' a1 a2 a3 w0 w1 u.2.2 (w5 hs) e u.2.1 u.1 (pk.yk hK e) w14 w15
  · have u := pk.yf hK e
    exact k2 M' a1 a2 a3 w0 w1 w2 e u.2.1 u.2.2 u.1 w12 w14 w15)
theorem d_want_z {A : Nat → Option (Nat × (Nat → Int32))} {Q : Option Value → jm → Prop} {f : Int → Int} {N : Int} {M : jm} (hI_M : RI M) (hH_M : RH M) (hS_M : RF M) {c : Int} (h_c : 0 ≤ c ∧ c ≤ 255) (p0 : M 598 73 ≤ M 598 72) (hT : TXr f N M) (h0 : M 598 80 ≠ 0)  (k1 : ∀ M' : jm, RI M' → RH M' → RF M' → M' 598 73 ≤ M' 598 72 → M 598 73 ≤ M' 598 73 → TK M' ≤ TK M → M' 598 80 = M 598 80 → M' 598 81 = M 598 81 → TXr f N M' → (∀ (a : Nat) (i : Int), a ≠ 598 → M' a i = M a i) → (∀ (i : Int), i ≠ 73 → i ≠ 74 → i ≠ 75 → i ≠ 76 → i ≠ 77 → i ≠ 78 → i ≠ 79 → i ≠ 80 → i ≠ 81 → M' 598 i = M 598 i) → Q none M') : jc A 3 348 [.ref (598), .int (Int32.ofInt (c))] M Q := r_want_z hI_M hH_M hS_M h_c p0 hT (fun M' a1 a2 a3 w0 w1 w2 w3 w4 w5 w6 w7 w8 w9 w10 w11 w12 w13 w14 w15 => by
  exact k1 M' a1 a2 a3 w0 w1 w2 (w11 h0).1 (w11 h0).2 w12 w14 w15)
theorem c_deeper_z {A : Nat → Option (Nat × (Nat → Int32))} {Q : Option Value → jm → Prop} {f : Int → Int} {N : Int} {M : jm} (hI_M : RI M) (hH_M : RH M) (hS_M : RF M) {t : Int} (p0 : M 598 73 ≤ M 598 72) (hK : TKr f N t M) (h0 : M 598 80 = 0) (p2 : M 598 100 ≤ 12) (h4 : M 598 74 ≠ 0) (hs : (M 598 74 = 3 → M 598 79 ≠ 10 ∧ M 598 79 ≠ 11)) (k1 : ∀ M' : jm, RI M' → RH M' → RF M' → M' 598 73 ≤ M' 598 72 → M 598 73 ≤ M' 598 73 → TK M' < TK M → M' 598 100 = M 598 100 + 1 → M 598 100 < 12 → (M' 598 74 = 3 → M' 598 79 ≠ 10 ∧ M' 598 79 ≠ 11) → M' 598 80 = 0 → M' 598 81 = M 598 81 → TKr f N (znx f N t) M' → (∀ (a : Nat) (i : Int), a ≠ 598 → M' a i = M a i) → (∀ (i : Int), i ≠ 73 → i ≠ 74 → i ≠ 75 → i ≠ 76 → i ≠ 77 → i ≠ 78 → i ≠ 79 → i ≠ 80 → i ≠ 81 → i ≠ 100 → M' 598 i = M 598 i) → Q none M') (k2 : ∀ M' : jm, RI M' → RH M' → RF M' → M' 598 73 ≤ M' 598 72 → M 598 73 ≤ M' 598 73 → TK M' ≤ TK M → M' 598 100 = M 598 100 + 1 → M 598 100 = 12 → M' 598 80 = 3 → M' 598 81 = t → TXr f N M' → (∀ (a : Nat) (i : Int), a ≠ 598 → M' a i = M a i) → (∀ (i : Int), i ≠ 73 → i ≠ 74 → i ≠ 75 → i ≠ 76 → i ≠ 77 → i ≠ 78 → i ≠ 79 → i ≠ 80 → i ≠ 81 → i ≠ 100 → M' 598 i = M 598 i) → Q none M') : jc A 3 352 [.ref (598)] M Q := r_deeper_z hI_M hH_M hS_M p0 hK.1 p2 (fun M' a1 a2 a3 w0 w1 w2 w3 w4 w5 w6 w7 w8 w9 w10 w11 w12 w13 w14 w15 => by
  have pk := DPQ.mk h0 p2 h4 w6 w8 w9 w10 w13
  by_cases e : M' 598 80 = 0
  · have u := pk.yt e
    exact k1 M' a1 a2 a3 w0 w1 u.2.2 w3 u.1 (w7 hs) e u.2.1 (pk.yk hK e) w14 w15
  · have u := pk.yf hK e
    exact k2 M' a1 a2 a3 w0 w1 w2 w3 u.1 u.2.1 u.2.2 w12 w14 w15)
theorem c_wantDeeper_z {A : Nat → Option (Nat × (Nat → Int32))} {Q : Option Value → jm → Prop} {f : Int → Int} {N : Int} {M : jm} (hI_M : RI M) (hH_M : RH M) (hS_M : RF M) {c : Int} (h_c : 0 ≤ c ∧ c ≤ 255) {t : Int} (p0 : M 598 73 ≤ M 598 72) (hK : TKr f N t M) (h0 : M 598 80 = 0) (p2 : M 598 100 ≤ 12) (hs : (M 598 74 = 3 → M 598 79 ≠ 10 ∧ M 598 79 ≠ 11)) (k1 : ∀ M' : jm, RI M' → RH M' → RF M' → M' 598 73 ≤ M' 598 72 → M 598 73 ≤ M' 598 73 → TK M' < TK M → M' 598 100 = M 598 100 + 1 → M 598 100 < 12 → (M' 598 74 = 3 → M' 598 79 ≠ 10 ∧ M' 598 79 ≠ 11) → M' 598 80 = 0 → M' 598 81 = M 598 81 → (zso f N t = 3 ∧ f t = c) → TKr f N (znx f N t) M' → (∀ (a : Nat) (i : Int), a ≠ 598 → M' a i = M a i) → (∀ (i : Int), i ≠ 73 → i ≠ 74 → i ≠ 75 → i ≠ 76 → i ≠ 77 → i ≠ 78 → i ≠ 79 → i ≠ 80 → i ≠ 81 → i ≠ 100 → M' 598 i = M 598 i) → Q none M') (k2 : ∀ M' : jm, RI M' → RH M' → RF M' → M' 598 73 ≤ M' 598 72 → M 598 73 ≤ M' 598 73 → TK M' ≤ TK M → M 598 100 = 12 → M' 598 80 = 3 → M' 598 81 = t → (zso f N t = 3 ∧ f t = c) → TXr f N M' → (∀ (a : Nat) (i : Int), a ≠ 598 → M' a i = M a i) → (∀ (i : Int), i ≠ 73 → i ≠ 74 → i ≠ 75 → i ≠ 76 → i ≠ 77 → i ≠ 78 → i ≠ 79 → i ≠ 80 → i ≠ 81 → i ≠ 100 → M' 598 i = M 598 i) → Q none M') (k3 : ∀ M' : jm, RI M' → RH M' → RF M' → M' 598 73 ≤ M' 598 72 → M 598 73 ≤ M' 598 73 → TK M' ≤ TK M → M' 598 80 ≠ 0 → M' 598 80 = zwr (zso f N t) → M' 598 81 = t → ¬ (zso f N t = 3 ∧ f t = c) → TXr f N M' → (∀ (a : Nat) (i : Int), a ≠ 598 → M' a i = M a i) → (∀ (i : Int), i ≠ 73 → i ≠ 74 → i ≠ 75 → i ≠ 76 → i ≠ 77 → i ≠ 78 → i ≠ 79 → i ≠ 80 → i ≠ 81 → i ≠ 100 → M' 598 i = M 598 i) → Q none M') : jc A 4 353 [.ref (598), .int (Int32.ofInt (c))] M Q := r_wantDeeper_z hI_M hH_M hS_M h_c p0 hK.1 (fun _ => p2) (fun M' a1 a2 a3 w0 w1 w2 w3 w4 w5 w6 w7 w8 w9 w10 w11 w12 w13 w14 w15 w16 w17 w18 w19 => by
  rcases WDQ.mk h0 p2 w4 w7 w9 w10 w11 w12 w13 w14 w17 with h | h | h
  · exact k1 M' a1 a2 a3 w1 w2 h.2.2.1.2.1 h.2.2.1.2.2 h.1.2 (w8 hs) h.2.1 h.2.2.1.1 (hK.sy h.1.1.1 h.1.1.2) (hK.nx2 h.2.2.2) w18 w19
  · exact k2 M' a1 a2 a3 w1 w2 w3 h.2.1 h.2.2.1 (h.2.2.2.trans hK.kz.2.1) (hK.sy h.1.1 h.1.2) w16 w18 w19
  · exact k3 M' a1 a2 a3 w1 w2 w3 h.2.1 (by rw [← hK.kz.2.2.1]; exact h.2.2.1) (h.2.2.2.trans hK.kz.2.1) (hK.sn h.1) w16 w18 w19)
theorem d_wantDeeper_z {A : Nat → Option (Nat × (Nat → Int32))} {Q : Option Value → jm → Prop} {f : Int → Int} {N : Int} {M : jm} (hI_M : RI M) (hH_M : RH M) (hS_M : RF M) {c : Int} (h_c : 0 ≤ c ∧ c ≤ 255) (p0 : M 598 73 ≤ M 598 72) (hT : TXr f N M) (h0 : M 598 80 ≠ 0)  (k1 : ∀ M' : jm, RI M' → RH M' → RF M' → M' 598 73 ≤ M' 598 72 → M 598 73 ≤ M' 598 73 → TK M' ≤ TK M → M' 598 80 = M 598 80 → M' 598 81 = M 598 81 → TXr f N M' → (∀ (a : Nat) (i : Int), a ≠ 598 → M' a i = M a i) → (∀ (i : Int), i ≠ 73 → i ≠ 74 → i ≠ 75 → i ≠ 76 → i ≠ 77 → i ≠ 78 → i ≠ 79 → i ≠ 80 → i ≠ 81 → i ≠ 100 → M' 598 i = M 598 i) → Q none M') : jc A 4 353 [.ref (598), .int (Int32.ofInt (c))] M Q := r_wantDeeper_z hI_M hH_M hS_M h_c p0 hT (fun z => absurd z h0) (fun M' a1 a2 a3 w0 w1 w2 w3 w4 w5 w6 w7 w8 w9 w10 w11 w12 w13 w14 w15 w16 w17 w18 w19 => by
  exact k1 M' a1 a2 a3 w1 w2 w3 (w15 h0).1 (w15 h0).2 w16 w18 w19)
theorem c_fails_z {A : Nat → Option (Nat × (Nat → Int32))} {Q : Option Value → jm → Prop} {f : Int → Int} {N : Int} {M : jm} (hI_M : RI M) (hH_M : RH M) (hS_M : RF M) {w : Int} (h_w : 1 ≤ w ∧ w ≤ 7) {p : Int} (h_p : 0 ≤ p ∧ p ≤ 1600) (h0 : M 598 80 = 0) (k1 : ∀ M' : jm, RI M' → RH M' → RF M' → M' 598 80 ≠ 0 → M' 598 80 = w → M' 598 81 = p → (∀ (a : Nat) (i : Int), a ≠ 598 → M' a i = M a i) → (∀ (i : Int), i ≠ 80 → i ≠ 81 → M' 598 i = M 598 i) → Q none M') : jc A 1 338 [.ref (598), .int (Int32.ofInt (w)), .int (Int32.ofInt (p))] M Q := r_fails_z hI_M hH_M hS_M h_w h_p (fun M' a1 a2 a3 w0 w1 w2 w3 w4 => by
  exact k1 M' a1 a2 a3 w0 (w1 h0).1 (w1 h0).2 w3 w4)
theorem d_fails_z {A : Nat → Option (Nat × (Nat → Int32))} {Q : Option Value → jm → Prop} {f : Int → Int} {N : Int} {M : jm} (hI_M : RI M) (hH_M : RH M) (hS_M : RF M) {w : Int} (h_w : 1 ≤ w ∧ w ≤ 7) {p : Int} (h_p : 0 ≤ p ∧ p ≤ 1600) (h0 : M 598 80 ≠ 0) (k1 : ∀ M' : jm, RI M' → RH M' → RF M' → M' 598 80 = M 598 80 → M' 598 81 = M 598 81 → (∀ (a : Nat) (i : Int), a ≠ 598 → M' a i = M a i) → (∀ (i : Int), i ≠ 80 → i ≠ 81 → M' 598 i = M 598 i) → Q none M') : jc A 1 338 [.ref (598), .int (Int32.ofInt (w)), .int (Int32.ofInt (p))] M Q := r_fails_z hI_M hH_M hS_M h_w h_p (fun M' a1 a2 a3 w0 w1 w2 w3 w4 => by
  exact k1 M' a1 a2 a3 (w2 h0).1 (w2 h0).2 w3 w4)
theorem c_wrongToken_z {A : Nat → Option (Nat × (Nat → Int32))} {Q : Option Value → jm → Prop} {f : Int → Int} {N : Int} {M : jm} (hI_M : RI M) (hH_M : RH M) (hS_M : RF M) {t : Int} (hK : TKr f N t M) (h0 : M 598 80 = 0) (k1 : ∀ M' : jm, RI M' → RH M' → RF M' → M' 598 80 ≠ 0 → M' 598 80 = zwr (zso f N t) → M' 598 81 = t → (∀ (a : Nat) (i : Int), a ≠ 598 → M' a i = M a i) → (∀ (i : Int), i ≠ 80 → i ≠ 81 → M' 598 i = M 598 i) → Q none M') : jc A 2 340 [.ref (598)] M Q := r_wrongToken_z hI_M hH_M hS_M (fun M' a1 a2 a3 w0 w1 w2 w3 w4 w5 w6 => by
  have u := WRQ.mk hK h0 w1 w2 w3
  exact k1 M' a1 a2 a3 w0 u.1 u.2 w5 w6)
theorem d_wrongToken_z {A : Nat → Option (Nat × (Nat → Int32))} {Q : Option Value → jm → Prop} {f : Int → Int} {N : Int} {M : jm} (hI_M : RI M) (hH_M : RH M) (hS_M : RF M) (h0 : M 598 80 ≠ 0) (k1 : ∀ M' : jm, RI M' → RH M' → RF M' → M' 598 80 = M 598 80 → M' 598 81 = M 598 81 → (∀ (a : Nat) (i : Int), a ≠ 598 → M' a i = M a i) → (∀ (i : Int), i ≠ 80 → i ≠ 81 → M' 598 i = M 598 i) → Q none M') : jc A 2 340 [.ref (598)] M Q := r_wrongToken_z hI_M hH_M hS_M (fun M' a1 a2 a3 w0 w1 w2 w3 w4 w5 w6 => by
  exact k1 M' a1 a2 a3 (w4 h0).1 (w4 h0).2 w5 w6)
theorem c_isWordIn_z {A : Nat → Option (Nat × (Nat → Int32))} {M : jm} {Q : Option Value → jm → Prop} (hI_M : RI M) {a : Int} (h_a : 0 ≤ a ∧ a ≤ 68) {b : Int} (h_b : 0 ≤ b ∧ b ≤ 68) (k1 : M 598 74 = 1 → a ≤ M 598 76 → M 598 76 ≤ b → Q (some (.int (Int32.ofInt 1))) M) (k0 : (M 598 74 ≠ 1 ∨ M 598 76 < a ∨ b < M 598 76) → Q (some (.int (Int32.ofInt 0))) M) : jc A 2 347 [.ref (598), .int (Int32.ofInt (a)), .int (Int32.ofInt (b))] M Q := by
  refine jc_of (m := xm_347) rfl (Nat.le_of_ble_eq_true rfl) rfl ?_
  refine jr.aload_n rfl rfl ?_
  obtain ⟨v1, e1⟩ : ∃ z, M 598 74 = z := ⟨_, rfl⟩
  have b1 : 0 ≤ v1 ∧ v1 ≤ 4 := by rw [← e1]; exact hI_M 598 74 (by decide)
  refine jr.getf (i := 74) (x := v1) (v := .int (Int32.ofInt (v1))) rfl rfl (by decide) rfl (by decide) rfl rfl e1 rfl ?_
  refine jr.iconst rfl ?_
  refine jr.icmp_ne rfl rfl (by omega) (by omega) (fun h5 => ?_) (fun h5 => ?_)
  · refine jr.iconst rfl ?_
    exact jr.ireturn rfl rfl rfl (k0 (by omega))
  · refine jr.aload_n rfl rfl ?_
    obtain ⟨v2, e2⟩ : ∃ z, M 598 76 = z := ⟨_, rfl⟩
    have b2 : (-1) ≤ v2 ∧ v2 ≤ 68 := by rw [← e2]; exact hI_M 598 76 (by decide)
    refine jr.getf (i := 76) (x := v2) (v := .int (Int32.ofInt (v2))) rfl rfl (by decide) rfl (by decide) rfl rfl e2 rfl ?_
    refine jr.i2l rfl (by omega) ?_
    refine jr.iload_n rfl rfl ?_
    refine jr.i2l rfl (by omega) ?_
    refine jr.iload_n rfl rfl ?_
    refine jr.i2l rfl (by omega) ?_
    refine jr_s rfl rfl (Or.inl rfl) ⟨Nat.le_of_ble_eq_true rfl, Nat.le_of_ble_eq_true rfl⟩ rfl rfl (jc.deep (c_within (by omega) (by omega) (by omega) (fun l17 u17 => ?_) (fun n17 => ?_)) (by decide))
    · refine jr.if_eq rfl rfl (by omega) (fun h => absurd h (by decide)) (fun _ => ?_)
      refine jr.iconst rfl ?_
      refine jr.goto rfl rfl ?_
      exact jr.ireturn rfl rfl rfl (k1 (by omega) (by omega) (by omega))
    · refine jr.if_eq rfl rfl (by omega) (fun _ => ?_) (fun h => absurd (by decide) h)
      refine jr.iconst rfl ?_
      exact jr.ireturn rfl rfl rfl (k0 (by omega))
theorem c_isName_z {A : Nat → Option (Nat × (Nat → Int32))} {M : jm} {Q : Option Value → jm → Prop} (hI_M : RI M)  (k1 : M 598 74 = 1 → (M 598 76 = -1 ∨ 45 ≤ M 598 76) → Q (some (.int (Int32.ofInt 1))) M) (k0 : (M 598 74 ≠ 1 ∨ (M 598 76 ≠ -1 ∧ M 598 76 < 45)) → Q (some (.int (Int32.ofInt 0))) M) : jc A 1 349 [.ref (598)] M Q := by
  refine jc_of (m := xm_349) rfl (Nat.le_of_ble_eq_true rfl) rfl ?_
  refine jr.aload_n rfl rfl ?_
  obtain ⟨v1, e1⟩ : ∃ z, M 598 74 = z := ⟨_, rfl⟩
  have b1 : 0 ≤ v1 ∧ v1 ≤ 4 := by rw [← e1]; exact hI_M 598 74 (by decide)
  refine jr.getf (i := 74) (x := v1) (v := .int (Int32.ofInt (v1))) rfl rfl (by decide) rfl (by decide) rfl rfl e1 rfl ?_
  refine jr.iconst rfl ?_
  refine jr.icmp_ne rfl rfl (by omega) (by omega) (fun h5 => ?_) (fun h5 => ?_)
  · refine jr.iconst rfl ?_
    exact jr.ireturn rfl rfl rfl (k0 (by omega))
  · refine jr.aload_n rfl rfl ?_
    obtain ⟨v2, e2⟩ : ∃ z, M 598 76 = z := ⟨_, rfl⟩
    have b2 : (-1) ≤ v2 ∧ v2 ≤ 68 := by rw [← e2]; exact hI_M 598 76 (by decide)
    refine jr.getf (i := 76) (x := v2) (v := .int (Int32.ofInt (v2))) rfl rfl (by decide) rfl (by decide) rfl rfl e2 rfl ?_
    refine jr.iconst rfl ?_
    refine jr.icmp_eq rfl rfl (by omega) (by omega) (fun h13 => ?_) (fun h13 => ?_)
    · refine jr.iconst rfl ?_
      refine jr.goto rfl rfl ?_
      exact jr.ireturn rfl rfl rfl (k1 (by omega) (by omega))
    · refine jr.aload_n rfl rfl ?_
      refine jr.getf (i := 76) (x := v2) (v := .int (Int32.ofInt (v2))) rfl rfl (by decide) rfl (by decide) rfl rfl e2 rfl ?_
      refine jr.bipush rfl (by decide) ?_
      refine jr.icmp_lt rfl rfl (by omega) (by omega) (fun h22 => ?_) (fun h22 => ?_)
      · refine jr.iconst rfl ?_
        exact jr.ireturn rfl rfl rfl (k0 (by omega))
      · refine jr.iconst rfl ?_
        refine jr.goto rfl rfl ?_
        exact jr.ireturn rfl rfl rfl (k1 (by omega) (by omega))
theorem zfl_y {k w i : Int} (h0 : 0 ≤ i) (h1 : i ≤ 10) (hw : w ≠ -1) (e : zfw.getD (11 * k + i).toNat 0 = w) : i = zfl k w (10 - (i + (-1))).toNat := by
  rw [show (10 - (i + (-1))).toNat = (10 - i).toNat + 1 by omega]
  show i = if w ≠ -1 ∧ zfw.getD (11 * k + (10 - (((10 - i).toNat : Nat) : Int))).toNat 0 = w then 10 - (((10 - i).toNat : Nat) : Int) else zfl k w (10 - i).toNat
  rw [show 10 - (((10 - i).toNat : Nat) : Int) = i by omega, if_pos ⟨hw, e⟩]
theorem zfl_n {k w i fi : Int} (h0 : 0 ≤ i) (h1 : i ≤ 10) (hn : w = -1 ∨ zfw.getD (11 * k + i).toNat 0 ≠ w) (hf : fi = zfl k w (10 - i).toNat) : fi = zfl k w (10 - (i + (-1))).toNat := by
  rw [show (10 - (i + (-1))).toNat = (10 - i).toNat + 1 by omega]
  show fi = if w ≠ -1 ∧ zfw.getD (11 * k + (10 - (((10 - i).toNat : Nat) : Int))).toNat 0 = w then 10 - (((10 - i).toNat : Nat) : Int) else zfl k w (10 - i).toNat
  rw [show 10 - (((10 - i).toNat : Nat) : Int) = i by omega, if_neg (fun q => hn.elim q.1 (fun z => z q.2))]
  exact hf
theorem zfd_of {f : Int → Int} {N k w i fi t : Int} (hf : fi = zfl k w (10 - i).toNat) (hi : i = -1) (hw : w = zwd f N t) : fi = zfd f N k t := by
  rw [hf, hi, hw]
  rfl
theorem r_kindAndField_L55_z {A : Nat → Option (Nat × (Nat → Int32))} {Q : Option Value → jm → Prop} {f : Int → Int} {N : Int} {b kk : Int} {xs : ZS} {t cc bh : Int} {sg : List (Int × Int × Int × Int)} {nm ak : List Int} {M0 : jm} (q : ∀ (M' : jm), RI M' → RH M' → RF M' → (BS M' ∨ (GS M' b 1 kk ∧ TK M' < TK M0)) → TK M' ≤ TK M0 → M' 598 73 ≤ M' 598 72 → (M' 598 80 ≠ 0 ∨ TK M' < TK M0) → CP M0 M' → M0 598 89 ≤ M' 598 89 → TXr f N M' → ZFQ f N xs M' → ZOQ f N xs (3) M' cc bh sg nm ak → K8Q M0 M' → (∀ (a : Nat) (i : Int), a ≠ 598 → a ≠ 659 → a ≠ 660 → M' a i = M0 a i) → (∀ (i : Int), i ≠ 73 → i ≠ 74 → i ≠ 75 → i ≠ 76 → i ≠ 77 → i ≠ 78 → i ≠ 79 → i ≠ 80 → i ≠ 81 → i ≠ 89 → i ≠ 90 → M' 598 i = M0 598 i) → Q none M') : ∀ (nM : Nat) (M : jm) (i : Int) (fi : Int) (k : Int), RI M → RH M → RF M → (∀ (a : Nat) (i : Int), a ≠ 598 → a ≠ 659 → a ≠ 660 → M a i = M0 a i) → (∀ (i : Int), i ≠ 73 → i ≠ 74 → i ≠ 75 → i ≠ 76 → i ≠ 77 → i ≠ 78 → i ≠ 79 → i ≠ 80 → i ≠ 81 → i ≠ 89 → i ≠ 90 → M 598 i = M0 598 i) → (-1) ≤ i ∧ i ≤ 10 → (-1) ≤ fi ∧ fi ≤ 10 → 0 ≤ k ∧ k ≤ 13 → ES M b 0 (kk + 4) 0 0 (-1) → M 598 80 = 0 → M 598 89 ≤ 300 → M 598 100 ≤ 12 → M 598 73 ≤ M 598 72 → TK M < TK M0 → M 598 90 ≤ 1750 → M 598 74 ≠ 0 → (M 598 74 = 3 → M 598 79 ≠ 10 ∧ M 598 79 ≠ 11) → (fi = -1 ∨ (0 ≤ fi ∧ M 650 (11 * k + fi) ≠ -1)) → CP M0 M → 0 ≤ kk → M0 598 89 ≤ M 598 89 → TKr f N (znx f N (znx f N t)) M → zr f N xs (5, znx f N t, M 598 89, M 598 100, cc, bh, (k, 0, 0, 0) :: sg, nm, ak) → (zso f N (znx f N t) = 3 ∧ f (znx f N t) = 46) → zso f N (znx f N (znx f N t)) = 1 → fi = zfl k (M 598 76) (10 - i).toNat → M 598 81 = M0 598 81 → i + 1 ≤ nM → jr A 3 xm_358 55 [(3, .int (Int32.ofInt (i))), (2, .int (Int32.ofInt (fi))), (1, .int (Int32.ofInt (k))), (0, .ref (598))] [] M Q := by
  intro nM
  induction nM using Nat.strongRecOn with
  | ind nM ih =>
    intro M i fi k hI_M hH_M hS_M hF_M hG_M h_i h_fi h_k hy0 hy1 hy2 hy3 hy4 hy5 hy6 hy7 hy8 hy9 hy10 hy11 hy12 hy13 hy14 hy15 hy16 hy17 hy18 hm
    have hCP := hy10
    have hE := hy0
    have bb := ES.bb hy0
    have kb := ES.kz hy0
    have sl := ES.sgle hy0
    have b107 : (0 : Int) ≤ M 598 107 ∧ M 598 107 ≤ 16 := hI_M 598 107 (by decide)
    have hKL := hy13
    have hzL := hy14
    have hR3 := hy15
    have hR5 := hy16
    have hR4 := hy17
    have hT := hKL.1
    have kkL := hKL.kz
    refine jr.iload_n rfl rfl ?_
    refine jr.if_lt rfl rfl (by omega) (fun h56 => ?_) (fun h56 => ?_)
    · refine jr.iload_n rfl rfl ?_
      refine jr.iconst rfl ?_
      refine jr.icmp_ne rfl rfl (by omega) (by omega) (fun h99 => ?_) (fun h99 => ?_)
      · refine jr.aload_n rfl rfl ?_
        refine jr.iconst rfl ?_
        refine jr.bipush rfl (by decide) ?_
        refine jr.iload_n rfl rfl ?_
        refine jr.imul rfl ?_
        refine jr.iload_n rfl rfl ?_
        refine jr.iadd rfl ?_
        refine jr.i2l rfl (by omega) ?_
        obtain ⟨v1, e1⟩ : ∃ z, M 598 90 = z := ⟨_, rfl⟩
        have b1 : 0 ≤ v1 ∧ v1 ≤ 2200 := by rw [← e1]; exact hI_M 598 90 (by decide)
        obtain ⟨v2, e2⟩ : ∃ z, M 598 100 = z := ⟨_, rfl⟩
        have b2 : 0 ≤ v2 ∧ v2 ≤ 13 := by rw [← e2]; exact hI_M 598 100 (by decide)
        obtain ⟨v4, e4⟩ : ∃ z, M 598 107 = z := ⟨_, rfl⟩
        have b4 : 0 ≤ v4 ∧ v4 ≤ 16 := by rw [← e4]; exact hI_M 598 107 (by decide)
        refine jr_v rfl rfl (Or.inl rfl) rfl rfl (by decide) rfl ⟨rfl, Nat.le_of_ble_eq_true rfl, Nat.le_of_ble_eq_true rfl⟩ rfl (jc.deep (r_emit e1 (by omega) (by omega) (by omega) ?_) (by decide))
        have y3 : M 598 100 = v2 := e2
        have y5 : M 598 107 = v4 := e4
        have hE := ES.emitO hE e1 5 ((16 * k) + fi) (kk + 2) (Or.inr (Or.inl ⟨rfl, ES.fv hE (by omega) (by omega) (by omega)⟩)) (by omega) (by omega) (by omega)
        have hfd := zfd_of hR4 (by omega) (hKL.wz (by omega)).2.1
        refine jr.aload_n rfl rfl ?_
        obtain ⟨v6, e6⟩ : ∃ z, M 598 73 = z := ⟨_, rfl⟩
        have b6 : 0 ≤ v6 ∧ v6 ≤ 1600 := by rw [← e6]; exact hI_M 598 73 (by decide)
        obtain ⟨v7, e7⟩ : ∃ z, M 598 72 = z := ⟨_, rfl⟩
        have b7 : 0 ≤ v7 ∧ v7 ≤ 1600 := by rw [← e7]; exact hI_M 598 72 (by decide)
        obtain ⟨v8, e8⟩ : ∃ z, M 598 80 = z := ⟨_, rfl⟩
        have b8 : 0 ≤ v8 ∧ v8 ≤ 7 := by rw [← e8]; exact hI_M 598 80 (by decide)
        obtain ⟨v9, e9⟩ : ∃ z, M 598 74 = z := ⟨_, rfl⟩
        have b9 : 0 ≤ v9 ∧ v9 ≤ 4 := by rw [← e9]; exact hI_M 598 74 (by decide)
        obtain ⟨v12, e12⟩ : ∃ z, M 598 75 = z := ⟨_, rfl⟩
        have b12 : 0 ≤ v12 ∧ v12 ≤ 1600 := by rw [← e12]; exact hI_M 598 75 (by decide)
        obtain ⟨v14, e14⟩ : ∃ z, M 598 79 = z := ⟨_, rfl⟩
        have b14 : 0 ≤ v14 ∧ v14 ≤ 255 := by rw [← e14]; exact hI_M 598 79 (by decide)
        obtain ⟨v17, e17⟩ : ∃ z, M 598 81 = z := ⟨_, rfl⟩
        have b17 : (-1) ≤ v17 ∧ v17 ≤ 1600 := by rw [← e17]; exact hI_M 598 81 (by decide)
        obtain ⟨v19, e19⟩ : ∃ z, M 598 89 = z := ⟨_, rfl⟩
        have b19 : 0 ≤ v19 ∧ v19 ≤ 301 := by rw [← e19]; exact hI_M 598 89 (by decide)
        refine jr_v rfl rfl (Or.inl rfl) rfl rfl (by decide) rfl ⟨rfl, Nat.le_of_ble_eq_true rfl, Nat.le_of_ble_eq_true rfl⟩ rfl (jc.deep (c_next_z (f := f) (N := N) (RI.u (RI.u (RI.u hI_M (a := 659) (i := v1) (by rw [xri_row rfl rfl]; show (0 : Int) ≤ _ ∧ _ ≤ (1000 : Int); omega)) (a := 660) (i := v1) (by rw [xri_row rfl rfl]; show (-9223372036854775808 : Int) ≤ _ ∧ _ ≤ (9223372036854775807 : Int); omega)) (a := 598) (i := 90) (show (0 : Int) ≤ _ ∧ _ ≤ (2200 : Int) from by omega)) (RH.o (RH.o (RH.o hH_M (by decide) (by decide) (by decide)) (by decide) (by decide) (by decide)) (by decide) (by decide) (by decide)) (RF.o (RF.o (RF.o hS_M (by decide) (by decide)) (by decide) (by decide)) (by decide) (by decide)) (by rw [((ju_i _ _ (by decide)).trans ((ju_c _ _ (by decide)).trans ((ju_c _ _ (by decide)).trans e6))), ((ju_i _ _ (by decide)).trans ((ju_c _ _ (by decide)).trans ((ju_c _ _ (by decide)).trans e7)))]; omega) (TKr.oo (TKr.cc (TKr.cc hKL (by decide) (by decide) (by decide) (by decide)) (by decide) (by decide) (by decide) (by decide)) (by decide)) (by rw [((ju_i _ _ (by decide)).trans ((ju_c _ _ (by decide)).trans ((ju_c _ _ (by decide)).trans e8)))]; omega) (by rw [((ju_i _ _ (by decide)).trans ((ju_c _ _ (by decide)).trans ((ju_c _ _ (by decide)).trans e9)))]; omega) (fun M22 hI_M22 hH_M22 hS_M22 qa22 qb22 qt22 sn22 hK22 w22_50 w22_51 => ?_)) (by decide))
        have y10 : (ju (ju (ju M 659 v1 5) 660 v1 ((16 * k) + fi)) 598 90 (v1 + 1)) 598 73 = v6 := ((ju_i _ _ (by decide)).trans ((ju_c _ _ (by decide)).trans ((ju_c _ _ (by decide)).trans e6)))
        have y11 : (ju (ju (ju M 659 v1 5) 660 v1 ((16 * k) + fi)) 598 90 (v1 + 1)) 598 74 = v9 := ((ju_i _ _ (by decide)).trans ((ju_c _ _ (by decide)).trans ((ju_c _ _ (by decide)).trans e9)))
        have y13 : (ju (ju (ju M 659 v1 5) 660 v1 ((16 * k) + fi)) 598 90 (v1 + 1)) 598 75 = v12 := ((ju_i _ _ (by decide)).trans ((ju_c _ _ (by decide)).trans ((ju_c _ _ (by decide)).trans e12)))
        have y15 : (ju (ju (ju M 659 v1 5) 660 v1 ((16 * k) + fi)) 598 90 (v1 + 1)) 598 79 = v14 := ((ju_i _ _ (by decide)).trans ((ju_c _ _ (by decide)).trans ((ju_c _ _ (by decide)).trans e14)))
        have y16 : (ju (ju (ju M 659 v1 5) 660 v1 ((16 * k) + fi)) 598 90 (v1 + 1)) 598 80 = v8 := ((ju_i _ _ (by decide)).trans ((ju_c _ _ (by decide)).trans ((ju_c _ _ (by decide)).trans e8)))
        have y18 : (ju (ju (ju M 659 v1 5) 660 v1 ((16 * k) + fi)) 598 90 (v1 + 1)) 598 81 = v17 := ((ju_i _ _ (by decide)).trans ((ju_c _ _ (by decide)).trans ((ju_c _ _ (by decide)).trans e17)))
        have y20 : (ju (ju (ju M 659 v1 5) 660 v1 ((16 * k) + fi)) 598 90 (v1 + 1)) 598 89 = v19 := ((ju_i _ _ (by decide)).trans ((ju_c _ _ (by decide)).trans ((ju_c _ _ (by decide)).trans e19)))
        have y21 : (ju (ju (ju M 659 v1 5) 660 v1 ((16 * k) + fi)) 598 90 (v1 + 1)) 598 100 = v2 := ((ju_i _ _ (by decide)).trans ((ju_c _ _ (by decide)).trans ((ju_c _ _ (by decide)).trans e2)))
        have tb22 : TK (ju (ju (ju M 659 v1 5) 660 v1 ((16 * k) + fi)) 598 90 (v1 + 1)) = TK M := ((TK.o (Or.inr ⟨by decide, by decide⟩)).trans ((TK.o (Or.inl (by decide))).trans ((TK.o (Or.inl (by decide))).trans rfl)))
        have x22_72 := w22_51 72 (by decide) (by decide) (by decide) (by decide) (by decide) (by decide) (by decide)
        have x22_80 := w22_51 80 (by decide) (by decide) (by decide) (by decide) (by decide) (by decide) (by decide)
        have x22_81 := w22_51 81 (by decide) (by decide) (by decide) (by decide) (by decide) (by decide) (by decide)
        have x22_89 := w22_51 89 (by decide) (by decide) (by decide) (by decide) (by decide) (by decide) (by decide)
        have x22_100 := w22_51 100 (by decide) (by decide) (by decide) (by decide) (by decide) (by decide) (by decide)
        have hT22 := hK22.1
        have kk22 := hK22.kz
        have y23 : (ju (ju (ju M 659 v1 5) 660 v1 ((16 * k) + fi)) 598 90 (v1 + 1)) 598 73 = v6 := ((ju_i _ _ (by decide)).trans ((ju_c _ _ (by decide)).trans ((ju_c _ _ (by decide)).trans e6)))
        have y24 : (ju (ju (ju M 659 v1 5) 660 v1 ((16 * k) + fi)) 598 90 (v1 + 1)) 598 89 = v19 := ((ju_i _ _ (by decide)).trans ((ju_c _ _ (by decide)).trans ((ju_c _ _ (by decide)).trans e19)))
        have y25 : (ju (ju (ju M 659 v1 5) 660 v1 ((16 * k) + fi)) 598 90 (v1 + 1)) 598 100 = v2 := ((ju_i _ _ (by decide)).trans ((ju_c _ _ (by decide)).trans ((ju_c _ _ (by decide)).trans e2)))
        have x22_89 := w22_51 89 (by decide) (by decide) (by decide) (by decide) (by decide) (by decide) (by decide)
        have x22_100 := w22_51 100 (by decide) (by decide) (by decide) (by decide) (by decide) (by decide) (by decide)
        have hE := ES.fr2 hE w22_50 (w22_51 88 (by decide) (by decide) (by decide) (by decide) (by decide) (by decide) (by decide)) (w22_51 90 (by decide) (by decide) (by decide) (by decide) (by decide) (by decide) (by decide)) (w22_51 101 (by decide) (by decide) (by decide) (by decide) (by decide) (by decide) (by decide)) (w22_51 102 (by decide) (by decide) (by decide) (by decide) (by decide) (by decide) (by decide)) (w22_51 107 (by decide) (by decide) (by decide) (by decide) (by decide) (by decide) (by decide)) (k' := kk + 2) (d' := 0) (z' := 0) (by omega) (by omega) (by omega) (by omega)
        have e26 : M22 598 72 = v7 := ((w22_51 72 (by decide) (by decide) (by decide) (by decide) (by decide) (by decide) (by decide)).trans ((ju_i _ _ (by decide)).trans ((ju_c _ _ (by decide)).trans ((ju_c _ _ (by decide)).trans e7))))
        have y27 : M22 598 72 = v7 := e26
        obtain ⟨v28, e28⟩ : ∃ z, M22 598 73 = z := ⟨_, rfl⟩
        have b28 : 0 ≤ v28 ∧ v28 ≤ 1600 := by rw [← e28]; exact hI_M22 598 73 (by decide)
        have y29 : M22 598 73 = v28 := e28
        obtain ⟨v30, e30⟩ : ∃ z, M22 598 74 = z := ⟨_, rfl⟩
        have b30 : 0 ≤ v30 ∧ v30 ≤ 4 := by rw [← e30]; exact hI_M22 598 74 (by decide)
        have y31 : M22 598 74 = v30 := e30
        obtain ⟨v32, e32⟩ : ∃ z, M22 598 79 = z := ⟨_, rfl⟩
        have b32 : 0 ≤ v32 ∧ v32 ≤ 255 := by rw [← e32]; exact hI_M22 598 79 (by decide)
        have y33 : M22 598 79 = v32 := e32
        have e34 : M22 598 80 = v8 := ((w22_51 80 (by decide) (by decide) (by decide) (by decide) (by decide) (by decide) (by decide)).trans ((ju_i _ _ (by decide)).trans ((ju_c _ _ (by decide)).trans ((ju_c _ _ (by decide)).trans e8))))
        have y35 : M22 598 80 = v8 := e34
        have e36 : M22 598 89 = v19 := ((w22_51 89 (by decide) (by decide) (by decide) (by decide) (by decide) (by decide) (by decide)).trans ((ju_i _ _ (by decide)).trans ((ju_c _ _ (by decide)).trans ((ju_c _ _ (by decide)).trans e19))))
        have y37 : M22 598 89 = v19 := e36
        have e38 : M22 598 90 = v1 + 1 := ((w22_51 90 (by decide) (by decide) (by decide) (by decide) (by decide) (by decide) (by decide)).trans (ju_same _ _ _ _))
        have y39 : M22 598 90 = v1 + 1 := e38
        have e40 : M22 598 100 = v2 := ((w22_51 100 (by decide) (by decide) (by decide) (by decide) (by decide) (by decide) (by decide)).trans ((ju_i _ _ (by decide)).trans ((ju_c _ _ (by decide)).trans ((ju_c _ _ (by decide)).trans e2))))
        have y41 : M22 598 100 = v2 := e40
        have e42 : M22 598 107 = v4 := ((w22_51 107 (by decide) (by decide) (by decide) (by decide) (by decide) (by decide) (by decide)).trans ((ju_i _ _ (by decide)).trans ((ju_c _ _ (by decide)).trans ((ju_c _ _ (by decide)).trans e4))))
        have y43 : M22 598 107 = v4 := e42
        obtain ⟨v44, e44⟩ : ∃ z, M22 598 75 = z := ⟨_, rfl⟩
        have b44 : 0 ≤ v44 ∧ v44 ≤ 1600 := by rw [← e44]; exact hI_M22 598 75 (by decide)
        have y45 : M22 598 75 = v44 := e44
        have y46 : M22 598 80 = v8 := e34
        have e47 : M22 598 81 = v17 := ((w22_51 81 (by decide) (by decide) (by decide) (by decide) (by decide) (by decide) (by decide)).trans ((ju_i _ _ (by decide)).trans ((ju_c _ _ (by decide)).trans ((ju_c _ _ (by decide)).trans e17))))
        have y48 : M22 598 81 = v17 := e47
        have y49 : M22 598 89 = v19 := e36
        have y50 : M22 598 100 = v2 := e40
        exact jr.vreturn rfl rfl (q _ hI_M22 hH_M22 hS_M22  (Or.inr ⟨⟨by omega, ES.adj hE (k' := kk) (z' := 0) (by omega) (by omega) (by omega), by omega, by omega, by omega, by omega⟩, by omega⟩) (by omega) (by omega) (Or.inr (by omega)) (CP.f (CP.emit hCP e1) (fun i => w22_50 659 i (by decide)) (w22_51 90 (by decide) (by decide) (by decide) (by decide) (by decide) (by decide) (by decide))) (by omega) hT22 (fun q => by exfalso; omega) (fun _ => ⟨_, hK22, zr.eq (zr.fld hzL hR3 hR5 (by omega)) rfl rfl (by omega) (by omega) rfl rfl⟩) (fun q => by omega) (fun a i f598 f659 f660 => ((w22_50 a i f598).trans ((ju_c _ _ f598).trans ((ju_c _ _ f660).trans ((ju_c _ _ f659).trans (hF_M a i f598 f659 f660)))))) (fun i g73 g74 g75 g76 g77 g78 g79 g80 g81 g89 g90 => ((w22_51 i g73 g74 g75 g76 g77 g78 g79).trans ((ju_i _ _ g90).trans ((ju_c _ _ (by decide)).trans ((ju_c _ _ (by decide)).trans (hG_M i g73 g74 g75 g76 g77 g78 g79 g80 g81 g89 g90)))))))
      · refine jr.aload_n rfl rfl ?_
        refine jr.iconst rfl ?_
        refine jr.aload_n rfl rfl ?_
        obtain ⟨v51, e51⟩ : ∃ z, M 598 75 = z := ⟨_, rfl⟩
        have b51 : 0 ≤ v51 ∧ v51 ≤ 1600 := by rw [← e51]; exact hI_M 598 75 (by decide)
        refine jr.getf (i := 75) (x := v51) (v := .int (Int32.ofInt (v51))) rfl rfl (by decide) rfl (by decide) rfl rfl e51 rfl ?_
        obtain ⟨v52, e52⟩ : ∃ z, M 598 80 = z := ⟨_, rfl⟩
        have b52 : 0 ≤ v52 ∧ v52 ≤ 7 := by rw [← e52]; exact hI_M 598 80 (by decide)
        obtain ⟨v53, e53⟩ : ∃ z, M 598 89 = z := ⟨_, rfl⟩
        have b53 : 0 ≤ v53 ∧ v53 ≤ 301 := by rw [← e53]; exact hI_M 598 89 (by decide)
        obtain ⟨v54, e54⟩ : ∃ z, M 598 100 = z := ⟨_, rfl⟩
        have b54 : 0 ≤ v54 ∧ v54 ≤ 13 := by rw [← e54]; exact hI_M 598 100 (by decide)
        obtain ⟨v55, e55⟩ : ∃ z, M 598 81 = z := ⟨_, rfl⟩
        have b55 : (-1) ≤ v55 ∧ v55 ≤ 1600 := by rw [← e55]; exact hI_M 598 81 (by decide)
        refine jr_v rfl rfl (Or.inl rfl) rfl rfl (by decide) rfl ⟨rfl, Nat.le_of_ble_eq_true rfl, Nat.le_of_ble_eq_true rfl⟩ rfl (jc.deep (c_fails_z (f := f) (N := N) hI_M hH_M hS_M (by omega) (by omega) (by rw [e52]; omega) (fun M56 hI_M56 hH_M56 hS_M56 qn56 q056 q156 w56_50 w56_51 => ?_)) (by decide))
        have tk56 : TK M56 = TK M := TK.fr (w56_51 73 (by decide) (by decide)) (w56_51 74 (by decide) (by decide))
        have x56_72 := w56_51 72 (by decide) (by decide)
        have x56_73 := w56_51 73 (by decide) (by decide)
        have x56_74 := w56_51 74 (by decide) (by decide)
        have x56_75 := w56_51 75 (by decide) (by decide)
        have x56_76 := w56_51 76 (by decide) (by decide)
        have x56_78 := w56_51 78 (by decide) (by decide)
        have x56_79 := w56_51 79 (by decide) (by decide)
        have x56_89 := w56_51 89 (by decide) (by decide)
        have x56_100 := w56_51 100 (by decide) (by decide)
        have hfd := zfd_of hR4 (by omega) (hKL.wz (by omega)).2.1
        have zfz : zr f N xs (zft (M56 598 80) (M56 598 81)) := zr.fe (zr.fld2 hzL hR3 hR5 (by omega)) (by omega) (by omega)
        obtain ⟨v57, e57⟩ : ∃ z, M 598 72 = z := ⟨_, rfl⟩
        have b57 : 0 ≤ v57 ∧ v57 ≤ 1600 := by rw [← e57]; exact hI_M 598 72 (by decide)
        have e58 : M56 598 72 = v57 := ((w56_51 72 (by decide) (by decide)).trans e57)
        have y59 : M56 598 72 = v57 := e58
        obtain ⟨v60, e60⟩ : ∃ z, M 598 73 = z := ⟨_, rfl⟩
        have b60 : 0 ≤ v60 ∧ v60 ≤ 1600 := by rw [← e60]; exact hI_M 598 73 (by decide)
        have e61 : M56 598 73 = v60 := ((w56_51 73 (by decide) (by decide)).trans e60)
        have y62 : M56 598 73 = v60 := e61
        obtain ⟨v63, e63⟩ : ∃ z, M 598 74 = z := ⟨_, rfl⟩
        have b63 : 0 ≤ v63 ∧ v63 ≤ 4 := by rw [← e63]; exact hI_M 598 74 (by decide)
        have e64 : M56 598 74 = v63 := ((w56_51 74 (by decide) (by decide)).trans e63)
        have y65 : M56 598 74 = v63 := e64
        obtain ⟨v66, e66⟩ : ∃ z, M 598 79 = z := ⟨_, rfl⟩
        have b66 : 0 ≤ v66 ∧ v66 ≤ 255 := by rw [← e66]; exact hI_M 598 79 (by decide)
        have e67 : M56 598 79 = v66 := ((w56_51 79 (by decide) (by decide)).trans e66)
        have y68 : M56 598 79 = v66 := e67
        obtain ⟨v69, e69⟩ : ∃ z, M56 598 80 = z := ⟨_, rfl⟩
        have b69 : 0 ≤ v69 ∧ v69 ≤ 7 := by rw [← e69]; exact hI_M56 598 80 (by decide)
        have y70 : M56 598 80 = v69 := e69
        have e71 : M56 598 89 = v53 := ((w56_51 89 (by decide) (by decide)).trans e53)
        have y72 : M56 598 89 = v53 := e71
        obtain ⟨v73, e73⟩ : ∃ z, M 598 90 = z := ⟨_, rfl⟩
        have b73 : 0 ≤ v73 ∧ v73 ≤ 2200 := by rw [← e73]; exact hI_M 598 90 (by decide)
        have e74 : M56 598 90 = v73 := ((w56_51 90 (by decide) (by decide)).trans e73)
        have y75 : M56 598 90 = v73 := e74
        have e76 : M56 598 100 = v54 := ((w56_51 100 (by decide) (by decide)).trans e54)
        have y77 : M56 598 100 = v54 := e76
        obtain ⟨v78, e78⟩ : ∃ z, M 598 107 = z := ⟨_, rfl⟩
        have b78 : 0 ≤ v78 ∧ v78 ≤ 16 := by rw [← e78]; exact hI_M 598 107 (by decide)
        have e79 : M56 598 107 = v78 := ((w56_51 107 (by decide) (by decide)).trans e78)
        have y80 : M56 598 107 = v78 := e79
        have e81 : M56 598 75 = v51 := ((w56_51 75 (by decide) (by decide)).trans e51)
        have y82 : M56 598 75 = v51 := e81
        have y83 : M56 598 80 = v69 := e69
        obtain ⟨v84, e84⟩ : ∃ z, M56 598 81 = z := ⟨_, rfl⟩
        have b84 : (-1) ≤ v84 ∧ v84 ≤ 1600 := by rw [← e84]; exact hI_M56 598 81 (by decide)
        have y85 : M56 598 81 = v84 := e84
        have y86 : M56 598 89 = v53 := e71
        have y87 : M56 598 100 = v54 := e76
        exact jr.vreturn rfl rfl (q _ hI_M56 hH_M56 hS_M56  (Or.inl ⟨by omega, by omega⟩) (by omega) (by omega) (Or.inl (by omega)) (CP.f hCP (fun i => w56_50 659 i (by decide)) (w56_51 90 (by decide) (by decide))) (by omega) (TXr.fr hT (w56_51 72 (by decide) (by decide)) (fun i => w56_50 651 i (by decide)) (fun i => w56_50 649 i (by decide)) (fun i => w56_50 650 i (by decide))) (fun _ => zr.fe zfz (by omega) (by omega)) (fun q => by exfalso; omega) (fun q => by omega) (fun a i f598 f659 f660 => ((w56_50 a i f598).trans (hF_M a i f598 f659 f660))) (fun i g73 g74 g75 g76 g77 g78 g79 g80 g81 g89 g90 => ((w56_51 i g80 g81).trans (hG_M i g73 g74 g75 g76 g77 g78 g79 g80 g81 g89 g90))))
    · refine jr.aload_n rfl rfl ?_
      obtain ⟨v88, e88⟩ : ∃ z, M 598 76 = z := ⟨_, rfl⟩
      have b88 : (-1) ≤ v88 ∧ v88 ≤ 68 := by rw [← e88]; exact hI_M 598 76 (by decide)
      refine jr.getf (i := 76) (x := v88) (v := .int (Int32.ofInt (v88))) rfl rfl (by decide) rfl (by decide) rfl rfl e88 rfl ?_
      refine jr.iconst rfl ?_
      refine jr.icmp_eq rfl rfl (by omega) (by omega) (fun h64 => ?_) (fun h64 => ?_)
      · refine jr.iload_n rfl rfl ?_
        refine jr.istore_n rfl (by decide) rfl ?_
        refine jr.iinc rfl rfl (by decide) rfl ?_
        refine jr.goto rfl rfl ?_
        obtain ⟨v89, e89⟩ : ∃ z, M 598 80 = z := ⟨_, rfl⟩
        have b89 : 0 ≤ v89 ∧ v89 ≤ 7 := by rw [← e89]; exact hI_M 598 80 (by decide)
        obtain ⟨v90, e90⟩ : ∃ z, M 598 89 = z := ⟨_, rfl⟩
        have b90 : 0 ≤ v90 ∧ v90 ≤ 301 := by rw [← e90]; exact hI_M 598 89 (by decide)
        obtain ⟨v91, e91⟩ : ∃ z, M 598 100 = z := ⟨_, rfl⟩
        have b91 : 0 ≤ v91 ∧ v91 ≤ 13 := by rw [← e91]; exact hI_M 598 100 (by decide)
        obtain ⟨v92, e92⟩ : ∃ z, M 598 73 = z := ⟨_, rfl⟩
        have b92 : 0 ≤ v92 ∧ v92 ≤ 1600 := by rw [← e92]; exact hI_M 598 73 (by decide)
        obtain ⟨v93, e93⟩ : ∃ z, M 598 72 = z := ⟨_, rfl⟩
        have b93 : 0 ≤ v93 ∧ v93 ≤ 1600 := by rw [← e93]; exact hI_M 598 72 (by decide)
        obtain ⟨v94, e94⟩ : ∃ z, M 598 90 = z := ⟨_, rfl⟩
        have b94 : 0 ≤ v94 ∧ v94 ≤ 2200 := by rw [← e94]; exact hI_M 598 90 (by decide)
        obtain ⟨v95, e95⟩ : ∃ z, M 598 74 = z := ⟨_, rfl⟩
        have b95 : 0 ≤ v95 ∧ v95 ≤ 4 := by rw [← e95]; exact hI_M 598 74 (by decide)
        obtain ⟨v96, e96⟩ : ∃ z, M 598 79 = z := ⟨_, rfl⟩
        have b96 : 0 ≤ v96 ∧ v96 ≤ 255 := by rw [← e96]; exact hI_M 598 79 (by decide)
        obtain ⟨v97, e97⟩ : ∃ z, M 598 81 = z := ⟨_, rfl⟩
        have b97 : (-1) ≤ v97 ∧ v97 ≤ 1600 := by rw [← e97]; exact hI_M 598 81 (by decide)
        refine jr.pick [0, 1, 2, 3] rfl rfl ?_
        exact ih (nM - 1) (by omega) M (i + (-1)) fi k hI_M hH_M hS_M  (fun a i f598 f659 f660 => (hF_M a i f598 f659 f660)) (fun i g73 g74 g75 g76 g77 g78 g79 g80 g81 g89 g90 => (hG_M i g73 g74 g75 g76 g77 g78 g79 g80 g81 g89 g90)) (by omega) (by omega) (by omega) hE (by rw [e89] <;> omega) (by rw [e90] <;> omega) (by rw [e91] <;> omega) (by rw [e92, e93] <;> omega) (by omega) (by rw [e94] <;> omega) (by rw [e95] <;> omega) (by rw [e95, e96] <;> omega) (by omega) hCP (by omega) (by rw [e90] <;> omega) hKL hzL hR3 hR5 (zfl_n (by omega) (by omega) (Or.inl (by rw [e88]; omega)) hR4) (by rw [e97] <;> omega) (by omega)
      · refine jr.aload_n rfl rfl ?_
        refine jr.getf (i := 70) (v := .ref 650) rfl rfl (by decide) rfl (by decide) rfl rfl rfl rfl ?_
        refine jr.bipush rfl (by decide) ?_
        refine jr.iload_n rfl rfl ?_
        refine jr.imul rfl ?_
        refine jr.iload_n rfl rfl ?_
        refine jr.iadd rfl ?_
        obtain ⟨v98, e98⟩ : ∃ z, M 650 ((11 * k) + i) = z := ⟨_, rfl⟩
        have b98 : (-1) ≤ v98 ∧ v98 ≤ 68 := by rw [← e98]; exact (by have q := hI_M 650 ((11 * k) + i) (by decide); rw [xri_row rfl rfl] at q; exact q)
        refine jr.iald (i := ((11 * k) + i)) (x := v98) rfl (by decide) rfl (by decide) (by omega) (by omega) e98 ?_
        refine jr.aload_n rfl rfl ?_
        refine jr.getf (i := 76) (x := v88) (v := .int (Int32.ofInt (v88))) rfl rfl (by decide) rfl (by decide) rfl rfl e88 rfl ?_
        refine jr.icmp_ne rfl rfl (by omega) (by omega) (fun h82 => ?_) (fun h82 => ?_)
        · refine jr.iload_n rfl rfl ?_
          refine jr.istore_n rfl (by decide) rfl ?_
          refine jr.iinc rfl rfl (by decide) rfl ?_
          refine jr.goto rfl rfl ?_
          obtain ⟨v99, e99⟩ : ∃ z, M 598 80 = z := ⟨_, rfl⟩
          have b99 : 0 ≤ v99 ∧ v99 ≤ 7 := by rw [← e99]; exact hI_M 598 80 (by decide)
          obtain ⟨v100, e100⟩ : ∃ z, M 598 89 = z := ⟨_, rfl⟩
          have b100 : 0 ≤ v100 ∧ v100 ≤ 301 := by rw [← e100]; exact hI_M 598 89 (by decide)
          obtain ⟨v101, e101⟩ : ∃ z, M 598 100 = z := ⟨_, rfl⟩
          have b101 : 0 ≤ v101 ∧ v101 ≤ 13 := by rw [← e101]; exact hI_M 598 100 (by decide)
          obtain ⟨v102, e102⟩ : ∃ z, M 598 73 = z := ⟨_, rfl⟩
          have b102 : 0 ≤ v102 ∧ v102 ≤ 1600 := by rw [← e102]; exact hI_M 598 73 (by decide)
          obtain ⟨v103, e103⟩ : ∃ z, M 598 72 = z := ⟨_, rfl⟩
          have b103 : 0 ≤ v103 ∧ v103 ≤ 1600 := by rw [← e103]; exact hI_M 598 72 (by decide)
          obtain ⟨v104, e104⟩ : ∃ z, M 598 90 = z := ⟨_, rfl⟩
          have b104 : 0 ≤ v104 ∧ v104 ≤ 2200 := by rw [← e104]; exact hI_M 598 90 (by decide)
          obtain ⟨v105, e105⟩ : ∃ z, M 598 74 = z := ⟨_, rfl⟩
          have b105 : 0 ≤ v105 ∧ v105 ≤ 4 := by rw [← e105]; exact hI_M 598 74 (by decide)
          obtain ⟨v106, e106⟩ : ∃ z, M 598 79 = z := ⟨_, rfl⟩
          have b106 : 0 ≤ v106 ∧ v106 ≤ 255 := by rw [← e106]; exact hI_M 598 79 (by decide)
          obtain ⟨v107, e107⟩ : ∃ z, M 598 81 = z := ⟨_, rfl⟩
          have b107 : (-1) ≤ v107 ∧ v107 ≤ 1600 := by rw [← e107]; exact hI_M 598 81 (by decide)
          refine jr.pick [0, 1, 2, 3] rfl rfl ?_
          exact ih (nM - 1) (by omega) M (i + (-1)) fi k hI_M hH_M hS_M  (fun a i f598 f659 f660 => (hF_M a i f598 f659 f660)) (fun i g73 g74 g75 g76 g77 g78 g79 g80 g81 g89 g90 => (hG_M i g73 g74 g75 g76 g77 g78 g79 g80 g81 g89 g90)) (by omega) (by omega) (by omega) hE (by rw [e99] <;> omega) (by rw [e100] <;> omega) (by rw [e101] <;> omega) (by rw [e102, e103] <;> omega) (by omega) (by rw [e104] <;> omega) (by rw [e105] <;> omega) (by rw [e105, e106] <;> omega) (by omega) hCP (by omega) (by rw [e100] <;> omega) hKL hzL hR3 hR5 (zfl_n (by omega) (by omega) (Or.inr (by rw [e88]; have q := hT.2.2.2 (11 * k + i) (by omega) (by omega); omega)) hR4) (by rw [e107] <;> omega) (by omega)
        · refine jr.iload_n rfl rfl ?_
          refine jr.goto rfl rfl ?_
          refine jr.istore_n rfl (by decide) rfl ?_
          refine jr.iinc rfl rfl (by decide) rfl ?_
          refine jr.goto rfl rfl ?_
          obtain ⟨v108, e108⟩ : ∃ z, M 598 80 = z := ⟨_, rfl⟩
          have b108 : 0 ≤ v108 ∧ v108 ≤ 7 := by rw [← e108]; exact hI_M 598 80 (by decide)
          obtain ⟨v109, e109⟩ : ∃ z, M 598 89 = z := ⟨_, rfl⟩
          have b109 : 0 ≤ v109 ∧ v109 ≤ 301 := by rw [← e109]; exact hI_M 598 89 (by decide)
          obtain ⟨v110, e110⟩ : ∃ z, M 598 100 = z := ⟨_, rfl⟩
          have b110 : 0 ≤ v110 ∧ v110 ≤ 13 := by rw [← e110]; exact hI_M 598 100 (by decide)
          obtain ⟨v111, e111⟩ : ∃ z, M 598 73 = z := ⟨_, rfl⟩
          have b111 : 0 ≤ v111 ∧ v111 ≤ 1600 := by rw [← e111]; exact hI_M 598 73 (by decide)
          obtain ⟨v112, e112⟩ : ∃ z, M 598 72 = z := ⟨_, rfl⟩
          have b112 : 0 ≤ v112 ∧ v112 ≤ 1600 := by rw [← e112]; exact hI_M 598 72 (by decide)
          obtain ⟨v113, e113⟩ : ∃ z, M 598 90 = z := ⟨_, rfl⟩
          have b113 : 0 ≤ v113 ∧ v113 ≤ 2200 := by rw [← e113]; exact hI_M 598 90 (by decide)
          obtain ⟨v114, e114⟩ : ∃ z, M 598 74 = z := ⟨_, rfl⟩
          have b114 : 0 ≤ v114 ∧ v114 ≤ 4 := by rw [← e114]; exact hI_M 598 74 (by decide)
          obtain ⟨v115, e115⟩ : ∃ z, M 598 79 = z := ⟨_, rfl⟩
          have b115 : 0 ≤ v115 ∧ v115 ≤ 255 := by rw [← e115]; exact hI_M 598 79 (by decide)
          obtain ⟨v116, e116⟩ : ∃ z, M 598 81 = z := ⟨_, rfl⟩
          have b116 : (-1) ≤ v116 ∧ v116 ≤ 1600 := by rw [← e116]; exact hI_M 598 81 (by decide)
          refine jr.pick [0, 1, 2, 3] rfl rfl ?_
          exact ih (nM - 1) (by omega) M (i + (-1)) i k hI_M hH_M hS_M  (fun a i f598 f659 f660 => (hF_M a i f598 f659 f660)) (fun i g73 g74 g75 g76 g77 g78 g79 g80 g81 g89 g90 => (hG_M i g73 g74 g75 g76 g77 g78 g79 g80 g81 g89 g90)) (by omega) (by omega) (by omega) hE (by rw [e108] <;> omega) (by rw [e109] <;> omega) (by rw [e110] <;> omega) (by rw [e111, e112] <;> omega) (by omega) (by rw [e113] <;> omega) (by rw [e114] <;> omega) (by rw [e114, e115] <;> omega) (by omega) hCP (by omega) (by rw [e109] <;> omega) hKL hzL hR3 hR5 (zfl_y (by omega) (by omega) (by omega) (by rw [e88]; have q := hT.2.2.2 (11 * k + i) (by omega) (by omega); omega)) (by rw [e116] <;> omega) (by omega)
theorem r_kindAndField_z {A : Nat → Option (Nat × (Nat → Int32))} {Q : Option Value → jm → Prop} {f : Int → Int} {N : Int} {b kk : Int} {xs : ZS} {t cc bh : Int} {sg : List (Int × Int × Int × Int)} {nm ak : List Int} {M : jm} (hI_M : RI M) (hH_M : RH M) (hS_M : RF M) (p0 : GS M b 0 kk) (p1 : (M 598 74 = 1 ∧ 31 ≤ M 598 76 ∧ M 598 76 ≤ 44)) (p2 : TKr f N t M) (p3 : zr f N xs (2, t, M 598 89, M 598 100, cc, bh, sg, nm, ak)) (q : ∀ (M' : jm), RI M' → RH M' → RF M' → (BS M' ∨ (GS M' b 1 kk ∧ TK M' < TK M)) → TK M' ≤ TK M → M' 598 73 ≤ M' 598 72 → (M' 598 80 ≠ 0 ∨ TK M' < TK M) → CP M M' → M 598 89 ≤ M' 598 89 → TXr f N M' → ZFQ f N xs M' → ZOQ f N xs (3) M' cc bh sg nm ak → K8Q M M' → (∀ (a : Nat) (i : Int), a ≠ 598 → a ≠ 659 → a ≠ 660 → M' a i = M a i) → (∀ (i : Int), i ≠ 73 → i ≠ 74 → i ≠ 75 → i ≠ 76 → i ≠ 77 → i ≠ 78 → i ≠ 79 → i ≠ 80 → i ≠ 81 → i ≠ 89 → i ≠ 90 → M' 598 i = M 598 i) → Q none M') : jc A 4 358 [.ref (598)] M Q := by
  obtain ⟨gs1, gs2, gs3, gs4, gs5, gs6⟩ := id p0
  have hE := gs2
  have sl := ES.sgle gs2
  have bb := ES.bb gs2
  have kb := ES.kz gs2
  have b107 : (0 : Int) ≤ M 598 107 ∧ M 598 107 ≤ 16 := hI_M 598 107 (by decide)
  have b73 : (0 : Int) ≤ M 598 73 ∧ M 598 73 ≤ 1600 := hI_M 598 73 (by decide)
  have b88 : (0 : Int) ≤ M 598 88 ∧ M 598 88 ≤ 16 := hI_M 598 88 (by decide)
  have b100 : (0 : Int) ≤ M 598 100 ∧ M 598 100 ≤ 13 := hI_M 598 100 (by decide)
  have hK := p2
  have kk0 := hK.kz
  have hT := hK.1
  have hz := p3
  have w0t := hK.wz p1.1
  refine jc_of (m := xm_358) rfl (Nat.le_of_ble_eq_true rfl) rfl ?_
  refine jr.aload_n rfl rfl ?_
  obtain ⟨v1, e1⟩ : ∃ z, M 598 76 = z := ⟨_, rfl⟩
  have b1 : (-1) ≤ v1 ∧ v1 ≤ 68 := by rw [← e1]; exact hI_M 598 76 (by decide)
  refine jr.getf (i := 76) (x := v1) (v := .int (Int32.ofInt (v1))) rfl rfl (by decide) rfl (by decide) rfl rfl e1 rfl ?_
  refine jr.bipush rfl (by decide) ?_
  refine jr.isub rfl ?_
  refine jr.istore_n rfl (by decide) rfl ?_
  refine jr.aload_n rfl rfl ?_
  obtain ⟨v2, e2⟩ : ∃ z, M 598 80 = z := ⟨_, rfl⟩
  have b2 : 0 ≤ v2 ∧ v2 ≤ 7 := by rw [← e2]; exact hI_M 598 80 (by decide)
  obtain ⟨v3, e3⟩ : ∃ z, M 598 89 = z := ⟨_, rfl⟩
  have b3 : 0 ≤ v3 ∧ v3 ≤ 301 := by rw [← e3]; exact hI_M 598 89 (by decide)
  obtain ⟨v4, e4⟩ : ∃ z, M 598 100 = z := ⟨_, rfl⟩
  have b4 : 0 ≤ v4 ∧ v4 ≤ 13 := by rw [← e4]; exact hI_M 598 100 (by decide)
  obtain ⟨v5, e5⟩ : ∃ z, M 598 81 = z := ⟨_, rfl⟩
  have b5 : (-1) ≤ v5 ∧ v5 ≤ 1600 := by rw [← e5]; exact hI_M 598 81 (by decide)
  obtain ⟨v7, e7⟩ : ∃ z, M 598 73 = z := ⟨_, rfl⟩
  have b7 : 0 ≤ v7 ∧ v7 ≤ 1600 := by rw [← e7]; exact hI_M 598 73 (by decide)
  refine jr_v rfl rfl (Or.inl rfl) rfl rfl (by decide) rfl ⟨rfl, Nat.le_of_ble_eq_true rfl, Nat.le_of_ble_eq_true rfl⟩ rfl (jc.deep (c_node_z (f := f) (N := N) hI_M hH_M hS_M (by rw [e3]; omega) (by rw [e2]; omega) (fun M6 hI_M6 hH_M6 hS_M6 q96 ql6 q06 q16 w6_50 w6_51 => ?_) (fun M6 hI_M6 hH_M6 hS_M6 q96 ql6 q06 q16 w6_50 w6_51 => ?_)) (by decide))
  · have tk6 : TK M6 = TK M := TK.fr (w6_51 73 (by decide) (by decide) (by decide)) (w6_51 74 (by decide) (by decide) (by decide))
    have x6_72 := w6_51 72 (by decide) (by decide) (by decide)
    have x6_73 := w6_51 73 (by decide) (by decide) (by decide)
    have x6_74 := w6_51 74 (by decide) (by decide) (by decide)
    have x6_75 := w6_51 75 (by decide) (by decide) (by decide)
    have x6_76 := w6_51 76 (by decide) (by decide) (by decide)
    have x6_78 := w6_51 78 (by decide) (by decide) (by decide)
    have x6_79 := w6_51 79 (by decide) (by decide) (by decide)
    have x6_100 := w6_51 100 (by decide) (by decide) (by decide)
    have y8 : M 598 73 = v7 := e7
    have y9 : M 598 89 = v3 := e3
    have y10 : M 598 100 = v4 := e4
    have x6_73 := w6_51 73 (by decide) (by decide) (by decide)
    have x6_100 := w6_51 100 (by decide) (by decide) (by decide)
    have hE := ES.fr2 hE w6_50 (w6_51 88 (by decide) (by decide) (by decide)) (w6_51 90 (by decide) (by decide) (by decide)) (w6_51 101 (by decide) (by decide) (by decide)) (w6_51 102 (by decide) (by decide) (by decide)) (w6_51 107 (by decide) (by decide) (by decide)) (k' := kk + 4) (d' := 0) (z' := 0) (by omega) (by omega) (by omega) (by omega)
    refine jr.aload_n rfl rfl ?_
    obtain ⟨v11, e11⟩ : ∃ z, M6 598 80 = z := ⟨_, rfl⟩
    have b11 : 0 ≤ v11 ∧ v11 ≤ 7 := by rw [← e11]; exact hI_M6 598 80 (by decide)
    refine jr_v rfl rfl (Or.inl rfl) rfl rfl (by decide) rfl ⟨rfl, Nat.le_of_ble_eq_true rfl, Nat.le_of_ble_eq_true rfl⟩ rfl (jc.deep (c_good hI_M6  (fun t13_0 => ?_) (fun f13_0 => ?_)) (by decide))
    · refine jr.if_eq rfl rfl (by omega) (fun h => absurd h (by decide)) (fun _ => ?_)
      refine jr.aload_n rfl rfl ?_
      have e12 : M6 598 73 = v7 := ((w6_51 73 (by decide) (by decide) (by decide)).trans e7)
      obtain ⟨v13, e13⟩ : ∃ z, M 598 72 = z := ⟨_, rfl⟩
      have b13 : 0 ≤ v13 ∧ v13 ≤ 1600 := by rw [← e13]; exact hI_M 598 72 (by decide)
      have e14 : M6 598 72 = v13 := ((w6_51 72 (by decide) (by decide) (by decide)).trans e13)
      obtain ⟨v15, e15⟩ : ∃ z, M 598 74 = z := ⟨_, rfl⟩
      have b15 : 0 ≤ v15 ∧ v15 ≤ 4 := by rw [← e15]; exact hI_M 598 74 (by decide)
      have e16 : M6 598 74 = v15 := ((w6_51 74 (by decide) (by decide) (by decide)).trans e15)
      obtain ⟨v17, e17⟩ : ∃ z, M6 598 89 = z := ⟨_, rfl⟩
      have b17 : 0 ≤ v17 ∧ v17 ≤ 301 := by rw [← e17]; exact hI_M6 598 89 (by decide)
      have e18 : M6 598 100 = v4 := ((w6_51 100 (by decide) (by decide) (by decide)).trans e4)
      obtain ⟨v19, e19⟩ : ∃ z, M6 598 81 = z := ⟨_, rfl⟩
      have b19 : (-1) ≤ v19 ∧ v19 ≤ 1600 := by rw [← e19]; exact hI_M6 598 81 (by decide)
      refine jr_v rfl rfl (Or.inl rfl) rfl rfl (by decide) rfl ⟨rfl, Nat.le_of_ble_eq_true rfl, Nat.le_of_ble_eq_true rfl⟩ rfl (jc.deep (c_next_z (f := f) (N := N) hI_M6 hH_M6 hS_M6 (by rw [e12, e14]; omega) (TKr.fr hK (w6_51 72 (by decide) (by decide) (by decide)) (fun i => w6_50 651 i (by decide)) (fun i => w6_50 649 i (by decide)) (fun i => w6_50 650 i (by decide)) (w6_51 73 (by decide) (by decide) (by decide)) (w6_51 74 (by decide) (by decide) (by decide)) (w6_51 75 (by decide) (by decide) (by decide)) (w6_51 76 (by decide) (by decide) (by decide)) (w6_51 77 (by decide) (by decide) (by decide)) (w6_51 78 (by decide) (by decide) (by decide)) (w6_51 79 (by decide) (by decide) (by decide))) (by rw [e11]; omega) (by rw [e16]; omega) (fun M20 hI_M20 hH_M20 hS_M20 qa20 qb20 qt20 sn20 hK20 w20_50 w20_51 => ?_)) (by decide))
      have x20_72 := w20_51 72 (by decide) (by decide) (by decide) (by decide) (by decide) (by decide) (by decide)
      have x20_80 := w20_51 80 (by decide) (by decide) (by decide) (by decide) (by decide) (by decide) (by decide)
      have x20_81 := w20_51 81 (by decide) (by decide) (by decide) (by decide) (by decide) (by decide) (by decide)
      have x20_89 := w20_51 89 (by decide) (by decide) (by decide) (by decide) (by decide) (by decide) (by decide)
      have x20_100 := w20_51 100 (by decide) (by decide) (by decide) (by decide) (by decide) (by decide) (by decide)
      have hT20 := hK20.1
      have kk20 := hK20.kz
      have y21 : M6 598 73 = v7 := e12
      have y22 : M6 598 89 = v17 := e17
      have y23 : M6 598 100 = v4 := e18
      have x20_89 := w20_51 89 (by decide) (by decide) (by decide) (by decide) (by decide) (by decide) (by decide)
      have x20_100 := w20_51 100 (by decide) (by decide) (by decide) (by decide) (by decide) (by decide) (by decide)
      have hE := ES.fr2 hE w20_50 (w20_51 88 (by decide) (by decide) (by decide) (by decide) (by decide) (by decide) (by decide)) (w20_51 90 (by decide) (by decide) (by decide) (by decide) (by decide) (by decide) (by decide)) (w20_51 101 (by decide) (by decide) (by decide) (by decide) (by decide) (by decide) (by decide)) (w20_51 102 (by decide) (by decide) (by decide) (by decide) (by decide) (by decide) (by decide)) (w20_51 107 (by decide) (by decide) (by decide) (by decide) (by decide) (by decide) (by decide)) (k' := kk + 4) (d' := 0) (z' := 0) (by omega) (by omega) (by omega) (by omega)
      have hz5 := zr.wkind hz w0t.1 (by omega) (by omega)
      refine jr.aload_n rfl rfl ?_
      refine jr.bipush rfl (by decide) ?_
      obtain ⟨v24, e24⟩ : ∃ z, M20 598 73 = z := ⟨_, rfl⟩
      have b24 : 0 ≤ v24 ∧ v24 ≤ 1600 := by rw [← e24]; exact hI_M20 598 73 (by decide)
      have e25 : M20 598 72 = v13 := ((w20_51 72 (by decide) (by decide) (by decide) (by decide) (by decide) (by decide) (by decide)).trans e14)
      have e26 : M20 598 80 = v11 := ((w20_51 80 (by decide) (by decide) (by decide) (by decide) (by decide) (by decide) (by decide)).trans e11)
      obtain ⟨v27, e27⟩ : ∃ z, M20 598 74 = z := ⟨_, rfl⟩
      have b27 : 0 ≤ v27 ∧ v27 ≤ 4 := by rw [← e27]; exact hI_M20 598 74 (by decide)
      obtain ⟨v28, e28⟩ : ∃ z, M20 598 79 = z := ⟨_, rfl⟩
      have b28 : 0 ≤ v28 ∧ v28 ≤ 255 := by rw [← e28]; exact hI_M20 598 79 (by decide)
      have e29 : M20 598 89 = v17 := ((w20_51 89 (by decide) (by decide) (by decide) (by decide) (by decide) (by decide) (by decide)).trans e17)
      have e30 : M20 598 100 = v4 := ((w20_51 100 (by decide) (by decide) (by decide) (by decide) (by decide) (by decide) (by decide)).trans e18)
      have e31 : M20 598 81 = v19 := ((w20_51 81 (by decide) (by decide) (by decide) (by decide) (by decide) (by decide) (by decide)).trans e19)
      refine jr_v rfl rfl (Or.inl rfl) rfl rfl (by decide) rfl ⟨rfl, Nat.le_of_ble_eq_true rfl, Nat.le_of_ble_eq_true rfl⟩ rfl (jc.deep (c_want_z (f := f) (N := N) hI_M20 hH_M20 hS_M20 (by omega) (by rw [e24, e25]; omega) hK20 (by rw [e26]; omega) (by rw [e27, e28]; intro q; omega) (fun M32 hI_M32 hH_M32 hS_M32 qa32 qb32 qt32 sn32 q032 q132 qs32 hK32 w32_50 w32_51 => ?_) (fun M32 hI_M32 hH_M32 hS_M32 qa32 qb32 qt32 qn32 q032 q132 qs32 hT32 w32_50 w32_51 => ?_)) (by decide))
      · have x32_72 := w32_51 72 (by decide) (by decide) (by decide) (by decide) (by decide) (by decide) (by decide) (by decide) (by decide)
        have x32_89 := w32_51 89 (by decide) (by decide) (by decide) (by decide) (by decide) (by decide) (by decide) (by decide) (by decide)
        have x32_100 := w32_51 100 (by decide) (by decide) (by decide) (by decide) (by decide) (by decide) (by decide) (by decide) (by decide)
        have hT32 := hK32.1
        have kk32 := hK32.kz
        have y33 : M20 598 73 = v24 := e24
        have y34 : M20 598 89 = v17 := e29
        have y35 : M20 598 100 = v4 := e30
        have x32_89 := w32_51 89 (by decide) (by decide) (by decide) (by decide) (by decide) (by decide) (by decide) (by decide) (by decide)
        have x32_100 := w32_51 100 (by decide) (by decide) (by decide) (by decide) (by decide) (by decide) (by decide) (by decide) (by decide)
        have hE := ES.fr2 hE w32_50 (w32_51 88 (by decide) (by decide) (by decide) (by decide) (by decide) (by decide) (by decide) (by decide) (by decide)) (w32_51 90 (by decide) (by decide) (by decide) (by decide) (by decide) (by decide) (by decide) (by decide) (by decide)) (w32_51 101 (by decide) (by decide) (by decide) (by decide) (by decide) (by decide) (by decide) (by decide) (by decide)) (w32_51 102 (by decide) (by decide) (by decide) (by decide) (by decide) (by decide) (by decide) (by decide) (by decide)) (w32_51 107 (by decide) (by decide) (by decide) (by decide) (by decide) (by decide) (by decide) (by decide) (by decide)) (k' := kk + 4) (d' := 0) (z' := 0) (by omega) (by omega) (by omega) (by omega)
        refine jr.aload_n rfl rfl ?_
        obtain ⟨v36, e36⟩ : ∃ z, M32 598 80 = z := ⟨_, rfl⟩
        have b36 : 0 ≤ v36 ∧ v36 ≤ 7 := by rw [← e36]; exact hI_M32 598 80 (by decide)
        refine jr_v rfl rfl (Or.inl rfl) rfl rfl (by decide) rfl ⟨rfl, Nat.le_of_ble_eq_true rfl, Nat.le_of_ble_eq_true rfl⟩ rfl (jc.deep (c_good hI_M32  (fun t30_0 => ?_) (fun f30_0 => ?_)) (by decide))
        · refine jr.if_ne rfl rfl (by omega) (fun _ => ?_) (fun h => absurd (by decide) h)
          refine jr.aload_n rfl rfl ?_
          obtain ⟨v37, e37⟩ : ∃ z, M32 598 74 = z := ⟨_, rfl⟩
          have b37 : 0 ≤ v37 ∧ v37 ≤ 4 := by rw [← e37]; exact hI_M32 598 74 (by decide)
          refine jr.getf (i := 74) (x := v37) (v := .int (Int32.ofInt (v37))) rfl rfl (by decide) rfl (by decide) rfl rfl e37 rfl ?_
          refine jr.iconst rfl ?_
          refine jr.icmp_eq rfl rfl (by omega) (by omega) (fun h42 => ?_) (fun h42 => ?_)
          · refine jr.iconst rfl ?_
            refine jr.istore_n rfl (by decide) rfl ?_
            refine jr.bipush rfl (by decide) ?_
            refine jr.istore_n rfl (by decide) rfl ?_
            have e38 : M32 598 89 = v17 := ((w32_51 89 (by decide) (by decide) (by decide) (by decide) (by decide) (by decide) (by decide) (by decide) (by decide)).trans e29)
            have e39 : M32 598 100 = v4 := ((w32_51 100 (by decide) (by decide) (by decide) (by decide) (by decide) (by decide) (by decide) (by decide) (by decide)).trans e30)
            obtain ⟨v40, e40⟩ : ∃ z, M32 598 73 = z := ⟨_, rfl⟩
            have b40 : 0 ≤ v40 ∧ v40 ≤ 1600 := by rw [← e40]; exact hI_M32 598 73 (by decide)
            have e41 : M32 598 72 = v13 := ((w32_51 72 (by decide) (by decide) (by decide) (by decide) (by decide) (by decide) (by decide) (by decide) (by decide)).trans e25)
            obtain ⟨v42, e42⟩ : ∃ z, M 598 90 = z := ⟨_, rfl⟩
            have b42 : 0 ≤ v42 ∧ v42 ≤ 2200 := by rw [← e42]; exact hI_M 598 90 (by decide)
            have e43 : M6 598 90 = v42 := ((w6_51 90 (by decide) (by decide) (by decide)).trans e42)
            have e44 : M20 598 90 = v42 := ((w20_51 90 (by decide) (by decide) (by decide) (by decide) (by decide) (by decide) (by decide)).trans e43)
            have e45 : M32 598 90 = v42 := ((w32_51 90 (by decide) (by decide) (by decide) (by decide) (by decide) (by decide) (by decide) (by decide) (by decide)).trans e44)
            obtain ⟨v46, e46⟩ : ∃ z, M32 598 79 = z := ⟨_, rfl⟩
            have b46 : 0 ≤ v46 ∧ v46 ≤ 255 := by rw [← e46]; exact hI_M32 598 79 (by decide)
            obtain ⟨v47, e47⟩ : ∃ z, M32 598 81 = z := ⟨_, rfl⟩
            have b47 : (-1) ≤ v47 ∧ v47 ≤ 1600 := by rw [← e47]; exact hI_M32 598 81 (by decide)
            refine jr.pick [0, 1, 2, 3] rfl rfl ?_
            exact r_kindAndField_L55_z q 12 M32 10 (-1) (v1 - 31) hI_M32 hH_M32 hS_M32  (fun a i f598 f659 f660 => ((w32_50 a i f598).trans ((w20_50 a i f598).trans ((w6_50 a i f598).trans rfl)))) (fun i g73 g74 g75 g76 g77 g78 g79 g80 g81 g89 g90 => ((w32_51 i g73 g74 g75 g76 g77 g78 g79 g80 g81).trans ((w20_51 i g73 g74 g75 g76 g77 g78 g79).trans ((w6_51 i g80 g81 g89).trans rfl)))) (by omega) (by omega) (by omega) hE (by rw [e36] <;> omega) (by rw [e38] <;> omega) (by rw [e39] <;> omega) (by rw [e40, e41] <;> omega) (by omega) (by rw [e45] <;> omega) (by rw [e37] <;> omega) (by rw [e37, e46] <;> omega) (by omega) (CP.f (CP.f (CP.f (CP.rfl _) (fun i => w6_50 659 i (by decide)) (w6_51 90 (by decide) (by decide) (by decide))) (fun i => w20_50 659 i (by decide)) (w20_51 90 (by decide) (by decide) (by decide) (by decide) (by decide) (by decide) (by decide))) (fun i => w32_50 659 i (by decide)) (w32_51 90 (by decide) (by decide) (by decide) (by decide) (by decide) (by decide) (by decide) (by decide) (by decide))) (by omega) (by rw [e38] <;> omega) hK32 (zr.e5 hz5 (by omega) (by omega) (by omega)) qs32 (by omega) (by rfl) (by rw [e47] <;> omega) (by omega)
          · refine jr.aload_n rfl rfl ?_
            have e48 : M32 598 89 = v17 := ((w32_51 89 (by decide) (by decide) (by decide) (by decide) (by decide) (by decide) (by decide) (by decide) (by decide)).trans e29)
            have e49 : M32 598 100 = v4 := ((w32_51 100 (by decide) (by decide) (by decide) (by decide) (by decide) (by decide) (by decide) (by decide) (by decide)).trans e30)
            obtain ⟨v50, e50⟩ : ∃ z, M32 598 81 = z := ⟨_, rfl⟩
            have b50 : (-1) ≤ v50 ∧ v50 ≤ 1600 := by rw [← e50]; exact hI_M32 598 81 (by decide)
            refine jr_v rfl rfl (Or.inl rfl) rfl rfl (by decide) rfl ⟨rfl, Nat.le_of_ble_eq_true rfl, Nat.le_of_ble_eq_true rfl⟩ rfl (jc.deep (c_wrongToken_z (f := f) (N := N) hI_M32 hH_M32 hS_M32 hK32 (by rw [e36]; omega) (fun M51 hI_M51 hH_M51 hS_M51 qn51 q051 q151 w51_50 w51_51 => ?_)) (by decide))
            have tk51 : TK M51 = TK M32 := TK.fr (w51_51 73 (by decide) (by decide)) (w51_51 74 (by decide) (by decide))
            have x51_72 := w51_51 72 (by decide) (by decide)
            have x51_73 := w51_51 73 (by decide) (by decide)
            have x51_74 := w51_51 74 (by decide) (by decide)
            have x51_75 := w51_51 75 (by decide) (by decide)
            have x51_76 := w51_51 76 (by decide) (by decide)
            have x51_78 := w51_51 78 (by decide) (by decide)
            have x51_79 := w51_51 79 (by decide) (by decide)
            have x51_89 := w51_51 89 (by decide) (by decide)
            have x51_100 := w51_51 100 (by decide) (by decide)
            have zfz := zr.rfz (zr.fld1 hz5 qs32 (by omega)) q051 q151
            have e52 : M32 598 72 = v13 := ((w32_51 72 (by decide) (by decide) (by decide) (by decide) (by decide) (by decide) (by decide) (by decide) (by decide)).trans e25)
            have e53 : M51 598 72 = v13 := ((w51_51 72 (by decide) (by decide)).trans e52)
            have y54 : M51 598 72 = v13 := e53
            obtain ⟨v55, e55⟩ : ∃ z, M32 598 73 = z := ⟨_, rfl⟩
            have b55 : 0 ≤ v55 ∧ v55 ≤ 1600 := by rw [← e55]; exact hI_M32 598 73 (by decide)
            have e56 : M51 598 73 = v55 := ((w51_51 73 (by decide) (by decide)).trans e55)
            have y57 : M51 598 73 = v55 := e56
            have e58 : M51 598 74 = v37 := ((w51_51 74 (by decide) (by decide)).trans e37)
            have y59 : M51 598 74 = v37 := e58
            obtain ⟨v60, e60⟩ : ∃ z, M32 598 79 = z := ⟨_, rfl⟩
            have b60 : 0 ≤ v60 ∧ v60 ≤ 255 := by rw [← e60]; exact hI_M32 598 79 (by decide)
            have e61 : M51 598 79 = v60 := ((w51_51 79 (by decide) (by decide)).trans e60)
            have y62 : M51 598 79 = v60 := e61
            obtain ⟨v63, e63⟩ : ∃ z, M51 598 80 = z := ⟨_, rfl⟩
            have b63 : 0 ≤ v63 ∧ v63 ≤ 7 := by rw [← e63]; exact hI_M51 598 80 (by decide)
            have y64 : M51 598 80 = v63 := e63
            have e65 : M51 598 89 = v17 := ((w51_51 89 (by decide) (by decide)).trans e48)
            have y66 : M51 598 89 = v17 := e65
            obtain ⟨v67, e67⟩ : ∃ z, M 598 90 = z := ⟨_, rfl⟩
            have b67 : 0 ≤ v67 ∧ v67 ≤ 2200 := by rw [← e67]; exact hI_M 598 90 (by decide)
            have e68 : M6 598 90 = v67 := ((w6_51 90 (by decide) (by decide) (by decide)).trans e67)
            have e69 : M20 598 90 = v67 := ((w20_51 90 (by decide) (by decide) (by decide) (by decide) (by decide) (by decide) (by decide)).trans e68)
            have e70 : M32 598 90 = v67 := ((w32_51 90 (by decide) (by decide) (by decide) (by decide) (by decide) (by decide) (by decide) (by decide) (by decide)).trans e69)
            have e71 : M51 598 90 = v67 := ((w51_51 90 (by decide) (by decide)).trans e70)
            have y72 : M51 598 90 = v67 := e71
            have e73 : M51 598 100 = v4 := ((w51_51 100 (by decide) (by decide)).trans e49)
            have y74 : M51 598 100 = v4 := e73
            obtain ⟨v75, e75⟩ : ∃ z, M 598 107 = z := ⟨_, rfl⟩
            have b75 : 0 ≤ v75 ∧ v75 ≤ 16 := by rw [← e75]; exact hI_M 598 107 (by decide)
            have e76 : M6 598 107 = v75 := ((w6_51 107 (by decide) (by decide) (by decide)).trans e75)
            have e77 : M20 598 107 = v75 := ((w20_51 107 (by decide) (by decide) (by decide) (by decide) (by decide) (by decide) (by decide)).trans e76)
            have e78 : M32 598 107 = v75 := ((w32_51 107 (by decide) (by decide) (by decide) (by decide) (by decide) (by decide) (by decide) (by decide) (by decide)).trans e77)
            have e79 : M51 598 107 = v75 := ((w51_51 107 (by decide) (by decide)).trans e78)
            have y80 : M51 598 107 = v75 := e79
            obtain ⟨v81, e81⟩ : ∃ z, M32 598 75 = z := ⟨_, rfl⟩
            have b81 : 0 ≤ v81 ∧ v81 ≤ 1600 := by rw [← e81]; exact hI_M32 598 75 (by decide)
            have e82 : M51 598 75 = v81 := ((w51_51 75 (by decide) (by decide)).trans e81)
            have y83 : M51 598 75 = v81 := e82
            have y84 : M51 598 80 = v63 := e63
            obtain ⟨v85, e85⟩ : ∃ z, M51 598 81 = z := ⟨_, rfl⟩
            have b85 : (-1) ≤ v85 ∧ v85 ≤ 1600 := by rw [← e85]; exact hI_M51 598 81 (by decide)
            have y86 : M51 598 81 = v85 := e85
            have y87 : M51 598 89 = v17 := e65
            have y88 : M51 598 100 = v4 := e73
            exact jr.vreturn rfl rfl (q _ hI_M51 hH_M51 hS_M51  (Or.inl ⟨by omega, by omega⟩) (by omega) (by omega) (Or.inl (by omega)) (CP.f (CP.f (CP.f (CP.f (CP.rfl _) (fun i => w6_50 659 i (by decide)) (w6_51 90 (by decide) (by decide) (by decide))) (fun i => w20_50 659 i (by decide)) (w20_51 90 (by decide) (by decide) (by decide) (by decide) (by decide) (by decide) (by decide))) (fun i => w32_50 659 i (by decide)) (w32_51 90 (by decide) (by decide) (by decide) (by decide) (by decide) (by decide) (by decide) (by decide) (by decide))) (fun i => w51_50 659 i (by decide)) (w51_51 90 (by decide) (by decide))) (by omega) (TXr.fr hT32 (w51_51 72 (by decide) (by decide)) (fun i => w51_50 651 i (by decide)) (fun i => w51_50 649 i (by decide)) (fun i => w51_50 650 i (by decide))) (fun _ => zr.fe zfz (by omega) (by omega)) (fun q => by exfalso; omega) (fun q => by omega) (fun a i f598 f659 f660 => ((w51_50 a i f598).trans ((w32_50 a i f598).trans ((w20_50 a i f598).trans ((w6_50 a i f598).trans rfl))))) (fun i g73 g74 g75 g76 g77 g78 g79 g80 g81 g89 g90 => ((w51_51 i g80 g81).trans ((w32_51 i g73 g74 g75 g76 g77 g78 g79 g80 g81).trans ((w20_51 i g73 g74 g75 g76 g77 g78 g79).trans ((w6_51 i g80 g81 g89).trans rfl))))))
        · exfalso
          omega
      · have x32_72 := w32_51 72 (by decide) (by decide) (by decide) (by decide) (by decide) (by decide) (by decide) (by decide) (by decide)
        have x32_89 := w32_51 89 (by decide) (by decide) (by decide) (by decide) (by decide) (by decide) (by decide) (by decide) (by decide)
        have x32_100 := w32_51 100 (by decide) (by decide) (by decide) (by decide) (by decide) (by decide) (by decide) (by decide) (by decide)
        have zfz : zr f N xs (zft (M32 598 80) (M32 598 81)) := zr.rfz (zr.fld0 hz5 qs32) q032 q132
        refine jr.aload_n rfl rfl ?_
        obtain ⟨v89, e89⟩ : ∃ z, M32 598 80 = z := ⟨_, rfl⟩
        have b89 : 0 ≤ v89 ∧ v89 ≤ 7 := by rw [← e89]; exact hI_M32 598 80 (by decide)
        refine jr_v rfl rfl (Or.inl rfl) rfl rfl (by decide) rfl ⟨rfl, Nat.le_of_ble_eq_true rfl, Nat.le_of_ble_eq_true rfl⟩ rfl (jc.deep (c_good hI_M32  (fun t30_0 => ?_) (fun f30_0 => ?_)) (by decide))
        · exfalso
          omega
        · refine jr.if_ne rfl rfl (by omega) (fun h => absurd h (by decide)) (fun _ => ?_)
          have e90 : M32 598 72 = v13 := ((w32_51 72 (by decide) (by decide) (by decide) (by decide) (by decide) (by decide) (by decide) (by decide) (by decide)).trans e25)
          have y91 : M32 598 72 = v13 := e90
          obtain ⟨v92, e92⟩ : ∃ z, M32 598 73 = z := ⟨_, rfl⟩
          have b92 : 0 ≤ v92 ∧ v92 ≤ 1600 := by rw [← e92]; exact hI_M32 598 73 (by decide)
          have y93 : M32 598 73 = v92 := e92
          obtain ⟨v94, e94⟩ : ∃ z, M32 598 74 = z := ⟨_, rfl⟩
          have b94 : 0 ≤ v94 ∧ v94 ≤ 4 := by rw [← e94]; exact hI_M32 598 74 (by decide)
          have y95 : M32 598 74 = v94 := e94
          obtain ⟨v96, e96⟩ : ∃ z, M32 598 79 = z := ⟨_, rfl⟩
          have b96 : 0 ≤ v96 ∧ v96 ≤ 255 := by rw [← e96]; exact hI_M32 598 79 (by decide)
          have y97 : M32 598 79 = v96 := e96
          have y98 : M32 598 80 = v89 := e89
          have e99 : M32 598 89 = v17 := ((w32_51 89 (by decide) (by decide) (by decide) (by decide) (by decide) (by decide) (by decide) (by decide) (by decide)).trans e29)
          have y100 : M32 598 89 = v17 := e99
          obtain ⟨v101, e101⟩ : ∃ z, M 598 90 = z := ⟨_, rfl⟩
          have b101 : 0 ≤ v101 ∧ v101 ≤ 2200 := by rw [← e101]; exact hI_M 598 90 (by decide)
          have e102 : M6 598 90 = v101 := ((w6_51 90 (by decide) (by decide) (by decide)).trans e101)
          have e103 : M20 598 90 = v101 := ((w20_51 90 (by decide) (by decide) (by decide) (by decide) (by decide) (by decide) (by decide)).trans e102)
          have e104 : M32 598 90 = v101 := ((w32_51 90 (by decide) (by decide) (by decide) (by decide) (by decide) (by decide) (by decide) (by decide) (by decide)).trans e103)
          have y105 : M32 598 90 = v101 := e104
          have e106 : M32 598 100 = v4 := ((w32_51 100 (by decide) (by decide) (by decide) (by decide) (by decide) (by decide) (by decide) (by decide) (by decide)).trans e30)
          have y107 : M32 598 100 = v4 := e106
          obtain ⟨v108, e108⟩ : ∃ z, M 598 107 = z := ⟨_, rfl⟩
          have b108 : 0 ≤ v108 ∧ v108 ≤ 16 := by rw [← e108]; exact hI_M 598 107 (by decide)
          have e109 : M6 598 107 = v108 := ((w6_51 107 (by decide) (by decide) (by decide)).trans e108)
          have e110 : M20 598 107 = v108 := ((w20_51 107 (by decide) (by decide) (by decide) (by decide) (by decide) (by decide) (by decide)).trans e109)
          have e111 : M32 598 107 = v108 := ((w32_51 107 (by decide) (by decide) (by decide) (by decide) (by decide) (by decide) (by decide) (by decide) (by decide)).trans e110)
          have y112 : M32 598 107 = v108 := e111
          obtain ⟨v113, e113⟩ : ∃ z, M32 598 75 = z := ⟨_, rfl⟩
          have b113 : 0 ≤ v113 ∧ v113 ≤ 1600 := by rw [← e113]; exact hI_M32 598 75 (by decide)
          have y114 : M32 598 75 = v113 := e113
          have y115 : M32 598 80 = v89 := e89
          obtain ⟨v116, e116⟩ : ∃ z, M32 598 81 = z := ⟨_, rfl⟩
          have b116 : (-1) ≤ v116 ∧ v116 ≤ 1600 := by rw [← e116]; exact hI_M32 598 81 (by decide)
          have y117 : M32 598 81 = v116 := e116
          have y118 : M32 598 89 = v17 := e99
          have y119 : M32 598 100 = v4 := e106
          exact jr.vreturn rfl rfl (q _ hI_M32 hH_M32 hS_M32  (Or.inl ⟨by omega, by omega⟩) (by omega) (by omega) (Or.inl (by omega)) (CP.f (CP.f (CP.f (CP.rfl _) (fun i => w6_50 659 i (by decide)) (w6_51 90 (by decide) (by decide) (by decide))) (fun i => w20_50 659 i (by decide)) (w20_51 90 (by decide) (by decide) (by decide) (by decide) (by decide) (by decide) (by decide))) (fun i => w32_50 659 i (by decide)) (w32_51 90 (by decide) (by decide) (by decide) (by decide) (by decide) (by decide) (by decide) (by decide) (by decide))) (by omega) hT32 (fun _ => zr.fe zfz (by omega) (by omega)) (fun q => by exfalso; omega) (fun q => by omega) (fun a i f598 f659 f660 => ((w32_50 a i f598).trans ((w20_50 a i f598).trans ((w6_50 a i f598).trans rfl)))) (fun i g73 g74 g75 g76 g77 g78 g79 g80 g81 g89 g90 => ((w32_51 i g73 g74 g75 g76 g77 g78 g79 g80 g81).trans ((w20_51 i g73 g74 g75 g76 g77 g78 g79).trans ((w6_51 i g80 g81 g89).trans rfl)))))
    · exfalso
      omega
  · have tk6 : TK M6 = TK M := TK.fr (w6_51 73 (by decide) (by decide) (by decide)) (w6_51 74 (by decide) (by decide) (by decide))
    have x6_72 := w6_51 72 (by decide) (by decide) (by decide)
    have x6_73 := w6_51 73 (by decide) (by decide) (by decide)
    have x6_74 := w6_51 74 (by decide) (by decide) (by decide)
    have x6_75 := w6_51 75 (by decide) (by decide) (by decide)
    have x6_76 := w6_51 76 (by decide) (by decide) (by decide)
    have x6_78 := w6_51 78 (by decide) (by decide) (by decide)
    have x6_79 := w6_51 79 (by decide) (by decide) (by decide)
    have x6_100 := w6_51 100 (by decide) (by decide) (by decide)
    have zfz : zr f N xs (zft (M6 598 80) (M6 598 81)) := zr.fe (zr.wk hz w0t.1 (by omega) (by omega)) (by omega) (by omega)
    refine jr.aload_n rfl rfl ?_
    obtain ⟨v120, e120⟩ : ∃ z, M6 598 80 = z := ⟨_, rfl⟩
    have b120 : 0 ≤ v120 ∧ v120 ≤ 7 := by rw [← e120]; exact hI_M6 598 80 (by decide)
    refine jr_v rfl rfl (Or.inl rfl) rfl rfl (by decide) rfl ⟨rfl, Nat.le_of_ble_eq_true rfl, Nat.le_of_ble_eq_true rfl⟩ rfl (jc.deep (c_good hI_M6  (fun t13_0 => ?_) (fun f13_0 => ?_)) (by decide))
    · exfalso
      omega
    · refine jr.if_eq rfl rfl (by omega) (fun _ => ?_) (fun h => absurd (by decide) h)
      refine jr.aload_n rfl rfl ?_
      refine jr.bipush rfl (by decide) ?_
      have e121 : M6 598 73 = v7 := ((w6_51 73 (by decide) (by decide) (by decide)).trans e7)
      obtain ⟨v122, e122⟩ : ∃ z, M 598 72 = z := ⟨_, rfl⟩
      have b122 : 0 ≤ v122 ∧ v122 ≤ 1600 := by rw [← e122]; exact hI_M 598 72 (by decide)
      have e123 : M6 598 72 = v122 := ((w6_51 72 (by decide) (by decide) (by decide)).trans e122)
      obtain ⟨v124, e124⟩ : ∃ z, M6 598 89 = z := ⟨_, rfl⟩
      have b124 : 0 ≤ v124 ∧ v124 ≤ 301 := by rw [← e124]; exact hI_M6 598 89 (by decide)
      have e125 : M6 598 100 = v4 := ((w6_51 100 (by decide) (by decide) (by decide)).trans e4)
      obtain ⟨v126, e126⟩ : ∃ z, M6 598 81 = z := ⟨_, rfl⟩
      have b126 : (-1) ≤ v126 ∧ v126 ≤ 1600 := by rw [← e126]; exact hI_M6 598 81 (by decide)
      refine jr_v rfl rfl (Or.inl rfl) rfl rfl (by decide) rfl ⟨rfl, Nat.le_of_ble_eq_true rfl, Nat.le_of_ble_eq_true rfl⟩ rfl (jc.deep (d_want_z (f := f) (N := N) hI_M6 hH_M6 hS_M6 (by omega) (by rw [e121, e123]; omega) (TXr.fr hT (w6_51 72 (by decide) (by decide) (by decide)) (fun i => w6_50 651 i (by decide)) (fun i => w6_50 649 i (by decide)) (fun i => w6_50 650 i (by decide))) (by rw [e120]; omega) (fun M127 hI_M127 hH_M127 hS_M127 qa127 qb127 qt127 q0127 q1127 hT127 w127_50 w127_51 => ?_)) (by decide))
      have x127_72 := w127_51 72 (by decide) (by decide) (by decide) (by decide) (by decide) (by decide) (by decide) (by decide) (by decide)
      have x127_89 := w127_51 89 (by decide) (by decide) (by decide) (by decide) (by decide) (by decide) (by decide) (by decide) (by decide)
      have x127_100 := w127_51 100 (by decide) (by decide) (by decide) (by decide) (by decide) (by decide) (by decide) (by decide) (by decide)
      have zfz : zr f N xs (zft (M127 598 80) (M127 598 81)) := zr.fe zfz (by omega) (by omega)
      refine jr.aload_n rfl rfl ?_
      obtain ⟨v128, e128⟩ : ∃ z, M127 598 80 = z := ⟨_, rfl⟩
      have b128 : 0 ≤ v128 ∧ v128 ≤ 7 := by rw [← e128]; exact hI_M127 598 80 (by decide)
      refine jr_v rfl rfl (Or.inl rfl) rfl rfl (by decide) rfl ⟨rfl, Nat.le_of_ble_eq_true rfl, Nat.le_of_ble_eq_true rfl⟩ rfl (jc.deep (c_good hI_M127  (fun t30_0 => ?_) (fun f30_0 => ?_)) (by decide))
      · exfalso
        omega
      · refine jr.if_ne rfl rfl (by omega) (fun h => absurd h (by decide)) (fun _ => ?_)
        have e129 : M127 598 72 = v122 := ((w127_51 72 (by decide) (by decide) (by decide) (by decide) (by decide) (by decide) (by decide) (by decide) (by decide)).trans e123)
        have y130 : M127 598 72 = v122 := e129
        obtain ⟨v131, e131⟩ : ∃ z, M127 598 73 = z := ⟨_, rfl⟩
        have b131 : 0 ≤ v131 ∧ v131 ≤ 1600 := by rw [← e131]; exact hI_M127 598 73 (by decide)
        have y132 : M127 598 73 = v131 := e131
        obtain ⟨v133, e133⟩ : ∃ z, M127 598 74 = z := ⟨_, rfl⟩
        have b133 : 0 ≤ v133 ∧ v133 ≤ 4 := by rw [← e133]; exact hI_M127 598 74 (by decide)
        have y134 : M127 598 74 = v133 := e133
        obtain ⟨v135, e135⟩ : ∃ z, M127 598 79 = z := ⟨_, rfl⟩
        have b135 : 0 ≤ v135 ∧ v135 ≤ 255 := by rw [← e135]; exact hI_M127 598 79 (by decide)
        have y136 : M127 598 79 = v135 := e135
        have y137 : M127 598 80 = v128 := e128
        have e138 : M127 598 89 = v124 := ((w127_51 89 (by decide) (by decide) (by decide) (by decide) (by decide) (by decide) (by decide) (by decide) (by decide)).trans e124)
        have y139 : M127 598 89 = v124 := e138
        obtain ⟨v140, e140⟩ : ∃ z, M 598 90 = z := ⟨_, rfl⟩
        have b140 : 0 ≤ v140 ∧ v140 ≤ 2200 := by rw [← e140]; exact hI_M 598 90 (by decide)
        have e141 : M6 598 90 = v140 := ((w6_51 90 (by decide) (by decide) (by decide)).trans e140)
        have e142 : M127 598 90 = v140 := ((w127_51 90 (by decide) (by decide) (by decide) (by decide) (by decide) (by decide) (by decide) (by decide) (by decide)).trans e141)
        have y143 : M127 598 90 = v140 := e142
        have e144 : M127 598 100 = v4 := ((w127_51 100 (by decide) (by decide) (by decide) (by decide) (by decide) (by decide) (by decide) (by decide) (by decide)).trans e125)
        have y145 : M127 598 100 = v4 := e144
        obtain ⟨v146, e146⟩ : ∃ z, M 598 107 = z := ⟨_, rfl⟩
        have b146 : 0 ≤ v146 ∧ v146 ≤ 16 := by rw [← e146]; exact hI_M 598 107 (by decide)
        have e147 : M6 598 107 = v146 := ((w6_51 107 (by decide) (by decide) (by decide)).trans e146)
        have e148 : M127 598 107 = v146 := ((w127_51 107 (by decide) (by decide) (by decide) (by decide) (by decide) (by decide) (by decide) (by decide) (by decide)).trans e147)
        have y149 : M127 598 107 = v146 := e148
        obtain ⟨v150, e150⟩ : ∃ z, M127 598 75 = z := ⟨_, rfl⟩
        have b150 : 0 ≤ v150 ∧ v150 ≤ 1600 := by rw [← e150]; exact hI_M127 598 75 (by decide)
        have y151 : M127 598 75 = v150 := e150
        have y152 : M127 598 80 = v128 := e128
        obtain ⟨v153, e153⟩ : ∃ z, M127 598 81 = z := ⟨_, rfl⟩
        have b153 : (-1) ≤ v153 ∧ v153 ≤ 1600 := by rw [← e153]; exact hI_M127 598 81 (by decide)
        have y154 : M127 598 81 = v153 := e153
        have y155 : M127 598 89 = v124 := e138
        have y156 : M127 598 100 = v4 := e144
        exact jr.vreturn rfl rfl (q _ hI_M127 hH_M127 hS_M127  (Or.inl ⟨by omega, by omega⟩) (by omega) (by omega) (Or.inl (by omega)) (CP.f (CP.f (CP.rfl _) (fun i => w6_50 659 i (by decide)) (w6_51 90 (by decide) (by decide) (by decide))) (fun i => w127_50 659 i (by decide)) (w127_51 90 (by decide) (by decide) (by decide) (by decide) (by decide) (by decide) (by decide) (by decide) (by decide))) (by omega) hT127 (fun _ => zr.fe zfz (by omega) (by omega)) (fun q => by exfalso; omega) (fun q => by omega) (fun a i f598 f659 f660 => ((w127_50 a i f598).trans ((w6_50 a i f598).trans rfl))) (fun i g73 g74 g75 g76 g77 g78 g79 g80 g81 g89 g90 => ((w127_51 i g73 g74 g75 g76 g77 g78 g79 g80 g81).trans ((w6_51 i g80 g81 g89).trans rfl))))
theorem r_hasKind_L51_z {A : Nat → Option (Nat × (Nat → Int32))} {Q : Option Value → jm → Prop} {f : Int → Int} {N : Int} {b kk : Int} {xs : ZS} {t cc bh : Int} {sg : List (Int × Int × Int × Int)} {nm ak : List Int} {M0 : jm} (q : ∀ (M' : jm), RI M' → RH M' → RF M' → (BS M' ∨ (GS M' b 1 kk ∧ TK M' < TK M0)) → TK M' ≤ TK M0 → M' 598 73 ≤ M' 598 72 → (M' 598 80 ≠ 0 ∨ TK M' < TK M0) → CP M0 M' → M0 598 89 ≤ M' 598 89 → TXr f N M' → ZFQ f N xs M' → ZOQ f N xs (3) M' cc bh sg nm ak → K8Q M0 M' → (∀ (a : Nat) (i : Int), a ≠ 598 → a ≠ 659 → a ≠ 660 → M' a i = M0 a i) → (∀ (i : Int), i ≠ 73 → i ≠ 74 → i ≠ 75 → i ≠ 76 → i ≠ 77 → i ≠ 78 → i ≠ 79 → i ≠ 80 → i ≠ 81 → i ≠ 89 → i ≠ 90 → i ≠ 100 → M' 598 i = M0 598 i) → Q none M') : ∀ (M : jm) , RI M → RH M → RF M → (∀ (a : Nat) (i : Int), a ≠ 598 → a ≠ 659 → a ≠ 660 → M a i = M0 a i) → (∀ (i : Int), i ≠ 73 → i ≠ 74 → i ≠ 75 → i ≠ 76 → i ≠ 77 → i ≠ 78 → i ≠ 79 → i ≠ 80 → i ≠ 81 → i ≠ 89 → i ≠ 90 → i ≠ 100 → M 598 i = M0 598 i) → ES M b 0 (kk + 4) 1 0 (-1) → M 598 80 = 0 → M 598 89 ≤ 300 → 1 ≤ M 598 100 ∧ M 598 100 ≤ 12 → M 598 73 ≤ M 598 72 → TK M < TK M0 → M 598 90 ≤ 1750 → M 598 74 = 1 → 31 ≤ M 598 76 ∧ M 598 76 ≤ 44 → CP M0 M → 0 ≤ kk → M0 598 89 ≤ M 598 89 → TKr f N (znx f N (znx f N t)) M → zr f N xs (4, znx f N t, M 598 89, M 598 100 - 1, cc, bh, sg, nm, ak) → (zso f N (znx f N t) = 3 ∧ f (znx f N t) = 40) → (zso f N (znx f N (znx f N t)) = 1 ∧ 31 ≤ zwd f N (znx f N (znx f N t)) ∧ zwd f N (znx f N (znx f N t)) ≤ 44) → M 598 81 = M0 598 81 → jr A 4 xm_359 51 [(0, .ref (598))] [] M Q := by
    intro M  hI_M hH_M hS_M hF_M hG_M  hy0 hy1 hy2 hy3 hy4 hy5 hy6 hy7 hy8 hy9 hy10 hy11 hy12 hy13 hy14 hy15 hy16
    have hCP := hy9
    have hE := hy0
    have bb := ES.bb hy0
    have kb := ES.kz hy0
    have sl := ES.sgle hy0
    have b107 : (0 : Int) ≤ M 598 107 ∧ M 598 107 ≤ 16 := hI_M 598 107 (by decide)
    have hKL := hy12
    have hz4 := hy13
    have hR1 := hy14
    have hR2 := hy15
    have hT := hKL.1
    have kkL := hKL.kz
    refine jr.aload_n rfl rfl ?_
    refine jr.bipush rfl (by decide) ?_
    refine jr.aload_n rfl rfl ?_
    obtain ⟨v1, e1⟩ : ∃ z, M 598 76 = z := ⟨_, rfl⟩
    have b1 : (-1) ≤ v1 ∧ v1 ≤ 68 := by rw [← e1]; exact hI_M 598 76 (by decide)
    refine jr.getf (i := 76) (x := v1) (v := .int (Int32.ofInt (v1))) rfl rfl (by decide) rfl (by decide) rfl rfl e1 rfl ?_
    refine jr.bipush rfl (by decide) ?_
    refine jr.isub rfl ?_
    refine jr.i2l rfl (by omega) ?_
    obtain ⟨v2, e2⟩ : ∃ z, M 598 90 = z := ⟨_, rfl⟩
    have b2 : 0 ≤ v2 ∧ v2 ≤ 2200 := by rw [← e2]; exact hI_M 598 90 (by decide)
    obtain ⟨v3, e3⟩ : ∃ z, M 598 100 = z := ⟨_, rfl⟩
    have b3 : 0 ≤ v3 ∧ v3 ≤ 13 := by rw [← e3]; exact hI_M 598 100 (by decide)
    obtain ⟨v5, e5⟩ : ∃ z, M 598 107 = z := ⟨_, rfl⟩
    have b5 : 0 ≤ v5 ∧ v5 ≤ 16 := by rw [← e5]; exact hI_M 598 107 (by decide)
    refine jr_v rfl rfl (Or.inl rfl) rfl rfl (by decide) rfl ⟨rfl, Nat.le_of_ble_eq_true rfl, Nat.le_of_ble_eq_true rfl⟩ rfl (jc.deep (r_emit e2 (by omega) (by omega) (by omega) ?_) (by decide))
    have y4 : M 598 100 = v3 := e3
    have y6 : M 598 107 = v5 := e5
    have hE := ES.emitO hE e2 6 (v1 - 31) (kk + 2) (Or.inr (Or.inr (Or.inl rfl))) (by omega) (by omega) (by omega)
    refine jr.aload_n rfl rfl ?_
    obtain ⟨v7, e7⟩ : ∃ z, M 598 73 = z := ⟨_, rfl⟩
    have b7 : 0 ≤ v7 ∧ v7 ≤ 1600 := by rw [← e7]; exact hI_M 598 73 (by decide)
    obtain ⟨v8, e8⟩ : ∃ z, M 598 72 = z := ⟨_, rfl⟩
    have b8 : 0 ≤ v8 ∧ v8 ≤ 1600 := by rw [← e8]; exact hI_M 598 72 (by decide)
    obtain ⟨v9, e9⟩ : ∃ z, M 598 80 = z := ⟨_, rfl⟩
    have b9 : 0 ≤ v9 ∧ v9 ≤ 7 := by rw [← e9]; exact hI_M 598 80 (by decide)
    obtain ⟨v10, e10⟩ : ∃ z, M 598 74 = z := ⟨_, rfl⟩
    have b10 : 0 ≤ v10 ∧ v10 ≤ 4 := by rw [← e10]; exact hI_M 598 74 (by decide)
    obtain ⟨v13, e13⟩ : ∃ z, M 598 75 = z := ⟨_, rfl⟩
    have b13 : 0 ≤ v13 ∧ v13 ≤ 1600 := by rw [← e13]; exact hI_M 598 75 (by decide)
    obtain ⟨v15, e15⟩ : ∃ z, M 598 79 = z := ⟨_, rfl⟩
    have b15 : 0 ≤ v15 ∧ v15 ≤ 255 := by rw [← e15]; exact hI_M 598 79 (by decide)
    obtain ⟨v18, e18⟩ : ∃ z, M 598 81 = z := ⟨_, rfl⟩
    have b18 : (-1) ≤ v18 ∧ v18 ≤ 1600 := by rw [← e18]; exact hI_M 598 81 (by decide)
    obtain ⟨v20, e20⟩ : ∃ z, M 598 89 = z := ⟨_, rfl⟩
    have b20 : 0 ≤ v20 ∧ v20 ≤ 301 := by rw [← e20]; exact hI_M 598 89 (by decide)
    refine jr_v rfl rfl (Or.inl rfl) rfl rfl (by decide) rfl ⟨rfl, Nat.le_of_ble_eq_true rfl, Nat.le_of_ble_eq_true rfl⟩ rfl (jc.deep (c_next_z (f := f) (N := N) (RI.u (RI.u (RI.u hI_M (a := 659) (i := v2) (by rw [xri_row rfl rfl]; show (0 : Int) ≤ _ ∧ _ ≤ (1000 : Int); omega)) (a := 660) (i := v2) (by rw [xri_row rfl rfl]; show (-9223372036854775808 : Int) ≤ _ ∧ _ ≤ (9223372036854775807 : Int); omega)) (a := 598) (i := 90) (show (0 : Int) ≤ _ ∧ _ ≤ (2200 : Int) from by omega)) (RH.o (RH.o (RH.o hH_M (by decide) (by decide) (by decide)) (by decide) (by decide) (by decide)) (by decide) (by decide) (by decide)) (RF.o (RF.o (RF.o hS_M (by decide) (by decide)) (by decide) (by decide)) (by decide) (by decide)) (by rw [((ju_i _ _ (by decide)).trans ((ju_c _ _ (by decide)).trans ((ju_c _ _ (by decide)).trans e7))), ((ju_i _ _ (by decide)).trans ((ju_c _ _ (by decide)).trans ((ju_c _ _ (by decide)).trans e8)))]; omega) (TKr.oo (TKr.cc (TKr.cc hKL (by decide) (by decide) (by decide) (by decide)) (by decide) (by decide) (by decide) (by decide)) (by decide)) (by rw [((ju_i _ _ (by decide)).trans ((ju_c _ _ (by decide)).trans ((ju_c _ _ (by decide)).trans e9)))]; omega) (by rw [((ju_i _ _ (by decide)).trans ((ju_c _ _ (by decide)).trans ((ju_c _ _ (by decide)).trans e10)))]; omega) (fun M23 hI_M23 hH_M23 hS_M23 qa23 qb23 qt23 sn23 hK23 w23_50 w23_51 => ?_)) (by decide))
    have y11 : (ju (ju (ju M 659 v2 6) 660 v2 (v1 - 31)) 598 90 (v2 + 1)) 598 73 = v7 := ((ju_i _ _ (by decide)).trans ((ju_c _ _ (by decide)).trans ((ju_c _ _ (by decide)).trans e7)))
    have y12 : (ju (ju (ju M 659 v2 6) 660 v2 (v1 - 31)) 598 90 (v2 + 1)) 598 74 = v10 := ((ju_i _ _ (by decide)).trans ((ju_c _ _ (by decide)).trans ((ju_c _ _ (by decide)).trans e10)))
    have y14 : (ju (ju (ju M 659 v2 6) 660 v2 (v1 - 31)) 598 90 (v2 + 1)) 598 75 = v13 := ((ju_i _ _ (by decide)).trans ((ju_c _ _ (by decide)).trans ((ju_c _ _ (by decide)).trans e13)))
    have y16 : (ju (ju (ju M 659 v2 6) 660 v2 (v1 - 31)) 598 90 (v2 + 1)) 598 79 = v15 := ((ju_i _ _ (by decide)).trans ((ju_c _ _ (by decide)).trans ((ju_c _ _ (by decide)).trans e15)))
    have y17 : (ju (ju (ju M 659 v2 6) 660 v2 (v1 - 31)) 598 90 (v2 + 1)) 598 80 = v9 := ((ju_i _ _ (by decide)).trans ((ju_c _ _ (by decide)).trans ((ju_c _ _ (by decide)).trans e9)))
    have y19 : (ju (ju (ju M 659 v2 6) 660 v2 (v1 - 31)) 598 90 (v2 + 1)) 598 81 = v18 := ((ju_i _ _ (by decide)).trans ((ju_c _ _ (by decide)).trans ((ju_c _ _ (by decide)).trans e18)))
    have y21 : (ju (ju (ju M 659 v2 6) 660 v2 (v1 - 31)) 598 90 (v2 + 1)) 598 89 = v20 := ((ju_i _ _ (by decide)).trans ((ju_c _ _ (by decide)).trans ((ju_c _ _ (by decide)).trans e20)))
    have y22 : (ju (ju (ju M 659 v2 6) 660 v2 (v1 - 31)) 598 90 (v2 + 1)) 598 100 = v3 := ((ju_i _ _ (by decide)).trans ((ju_c _ _ (by decide)).trans ((ju_c _ _ (by decide)).trans e3)))
    have tb23 : TK (ju (ju (ju M 659 v2 6) 660 v2 (v1 - 31)) 598 90 (v2 + 1)) = TK M := ((TK.o (Or.inr ⟨by decide, by decide⟩)).trans ((TK.o (Or.inl (by decide))).trans ((TK.o (Or.inl (by decide))).trans rfl)))
    have x23_72 := w23_51 72 (by decide) (by decide) (by decide) (by decide) (by decide) (by decide) (by decide)
    have x23_80 := w23_51 80 (by decide) (by decide) (by decide) (by decide) (by decide) (by decide) (by decide)
    have x23_81 := w23_51 81 (by decide) (by decide) (by decide) (by decide) (by decide) (by decide) (by decide)
    have x23_89 := w23_51 89 (by decide) (by decide) (by decide) (by decide) (by decide) (by decide) (by decide)
    have x23_100 := w23_51 100 (by decide) (by decide) (by decide) (by decide) (by decide) (by decide) (by decide)
    have hT23 := hK23.1
    have kk23 := hK23.kz
    have y24 : (ju (ju (ju M 659 v2 6) 660 v2 (v1 - 31)) 598 90 (v2 + 1)) 598 73 = v7 := ((ju_i _ _ (by decide)).trans ((ju_c _ _ (by decide)).trans ((ju_c _ _ (by decide)).trans e7)))
    have y25 : (ju (ju (ju M 659 v2 6) 660 v2 (v1 - 31)) 598 90 (v2 + 1)) 598 89 = v20 := ((ju_i _ _ (by decide)).trans ((ju_c _ _ (by decide)).trans ((ju_c _ _ (by decide)).trans e20)))
    have y26 : (ju (ju (ju M 659 v2 6) 660 v2 (v1 - 31)) 598 90 (v2 + 1)) 598 100 = v3 := ((ju_i _ _ (by decide)).trans ((ju_c _ _ (by decide)).trans ((ju_c _ _ (by decide)).trans e3)))
    have x23_89 := w23_51 89 (by decide) (by decide) (by decide) (by decide) (by decide) (by decide) (by decide)
    have x23_100 := w23_51 100 (by decide) (by decide) (by decide) (by decide) (by decide) (by decide) (by decide)
    have hE := ES.fr2 hE w23_50 (w23_51 88 (by decide) (by decide) (by decide) (by decide) (by decide) (by decide) (by decide)) (w23_51 90 (by decide) (by decide) (by decide) (by decide) (by decide) (by decide) (by decide)) (w23_51 101 (by decide) (by decide) (by decide) (by decide) (by decide) (by decide) (by decide)) (w23_51 102 (by decide) (by decide) (by decide) (by decide) (by decide) (by decide) (by decide)) (w23_51 107 (by decide) (by decide) (by decide) (by decide) (by decide) (by decide) (by decide)) (k' := kk + 2) (d' := 1) (z' := 0) (by omega) (by omega) (by omega) (by omega)
    refine jr.aload_n rfl rfl ?_
    refine jr.bipush rfl (by decide) ?_
    obtain ⟨v27, e27⟩ : ∃ z, M23 598 73 = z := ⟨_, rfl⟩
    have b27 : 0 ≤ v27 ∧ v27 ≤ 1600 := by rw [← e27]; exact hI_M23 598 73 (by decide)
    have e28 : M23 598 72 = v8 := ((w23_51 72 (by decide) (by decide) (by decide) (by decide) (by decide) (by decide) (by decide)).trans ((ju_i _ _ (by decide)).trans ((ju_c _ _ (by decide)).trans ((ju_c _ _ (by decide)).trans e8))))
    have e29 : M23 598 80 = v9 := ((w23_51 80 (by decide) (by decide) (by decide) (by decide) (by decide) (by decide) (by decide)).trans ((ju_i _ _ (by decide)).trans ((ju_c _ _ (by decide)).trans ((ju_c _ _ (by decide)).trans e9))))
    obtain ⟨v30, e30⟩ : ∃ z, M23 598 74 = z := ⟨_, rfl⟩
    have b30 : 0 ≤ v30 ∧ v30 ≤ 4 := by rw [← e30]; exact hI_M23 598 74 (by decide)
    obtain ⟨v31, e31⟩ : ∃ z, M23 598 79 = z := ⟨_, rfl⟩
    have b31 : 0 ≤ v31 ∧ v31 ≤ 255 := by rw [← e31]; exact hI_M23 598 79 (by decide)
    have e32 : M23 598 89 = v20 := ((w23_51 89 (by decide) (by decide) (by decide) (by decide) (by decide) (by decide) (by decide)).trans ((ju_i _ _ (by decide)).trans ((ju_c _ _ (by decide)).trans ((ju_c _ _ (by decide)).trans e20))))
    have e33 : M23 598 100 = v3 := ((w23_51 100 (by decide) (by decide) (by decide) (by decide) (by decide) (by decide) (by decide)).trans ((ju_i _ _ (by decide)).trans ((ju_c _ _ (by decide)).trans ((ju_c _ _ (by decide)).trans e3))))
    have e34 : M23 598 81 = v18 := ((w23_51 81 (by decide) (by decide) (by decide) (by decide) (by decide) (by decide) (by decide)).trans ((ju_i _ _ (by decide)).trans ((ju_c _ _ (by decide)).trans ((ju_c _ _ (by decide)).trans e18))))
    refine jr_v rfl rfl (Or.inl rfl) rfl rfl (by decide) rfl ⟨rfl, Nat.le_of_ble_eq_true rfl, Nat.le_of_ble_eq_true rfl⟩ rfl (jc.deep (c_want_z (f := f) (N := N) hI_M23 hH_M23 hS_M23 (by omega) (by rw [e27, e28]; omega) hK23 (by rw [e29]; omega) (by rw [e30, e31]; intro q; omega) (fun M35 hI_M35 hH_M35 hS_M35 qa35 qb35 qt35 sn35 q035 q135 qs35 hK35 w35_50 w35_51 => ?_) (fun M35 hI_M35 hH_M35 hS_M35 qa35 qb35 qt35 qn35 q035 q135 qs35 hT35 w35_50 w35_51 => ?_)) (by decide))
    · have x35_72 := w35_51 72 (by decide) (by decide) (by decide) (by decide) (by decide) (by decide) (by decide) (by decide) (by decide)
      have x35_89 := w35_51 89 (by decide) (by decide) (by decide) (by decide) (by decide) (by decide) (by decide) (by decide) (by decide)
      have x35_100 := w35_51 100 (by decide) (by decide) (by decide) (by decide) (by decide) (by decide) (by decide) (by decide) (by decide)
      have hT35 := hK35.1
      have kk35 := hK35.kz
      have y36 : M23 598 73 = v27 := e27
      have y37 : M23 598 89 = v20 := e32
      have y38 : M23 598 100 = v3 := e33
      have x35_89 := w35_51 89 (by decide) (by decide) (by decide) (by decide) (by decide) (by decide) (by decide) (by decide) (by decide)
      have x35_100 := w35_51 100 (by decide) (by decide) (by decide) (by decide) (by decide) (by decide) (by decide) (by decide) (by decide)
      have hE := ES.fr2 hE w35_50 (w35_51 88 (by decide) (by decide) (by decide) (by decide) (by decide) (by decide) (by decide) (by decide) (by decide)) (w35_51 90 (by decide) (by decide) (by decide) (by decide) (by decide) (by decide) (by decide) (by decide) (by decide)) (w35_51 101 (by decide) (by decide) (by decide) (by decide) (by decide) (by decide) (by decide) (by decide) (by decide)) (w35_51 102 (by decide) (by decide) (by decide) (by decide) (by decide) (by decide) (by decide) (by decide) (by decide)) (w35_51 107 (by decide) (by decide) (by decide) (by decide) (by decide) (by decide) (by decide) (by decide) (by decide)) (k' := kk + 2) (d' := 1) (z' := 0) (by omega) (by omega) (by omega) (by omega)
      refine jr.aload_n rfl rfl ?_
      refine jr.dup rfl rfl ?_
      have e39 : M35 598 100 = v3 := ((w35_51 100 (by decide) (by decide) (by decide) (by decide) (by decide) (by decide) (by decide) (by decide) (by decide)).trans e33)
      refine jr.getf (i := 100) (x := v3) (v := .int (Int32.ofInt (v3))) rfl rfl (by decide) rfl (by decide) rfl rfl e39 rfl ?_
      refine jr.iconst rfl ?_
      refine jr.isub rfl ?_
      refine jr.putf (i := 100) (x := (v3 - 1)) rfl rfl (by decide) rfl (by decide) rfl rfl rfl rfl rfl ?_
      have e40 : M35 598 72 = v8 := ((w35_51 72 (by decide) (by decide) (by decide) (by decide) (by decide) (by decide) (by decide) (by decide) (by decide)).trans e28)
      have y41 : (ju M35 598 100 (v3 - 1)) 598 72 = v8 := ((ju_i _ _ (by decide)).trans e40)
      obtain ⟨v42, e42⟩ : ∃ z, M35 598 73 = z := ⟨_, rfl⟩
      have b42 : 0 ≤ v42 ∧ v42 ≤ 1600 := by rw [← e42]; exact hI_M35 598 73 (by decide)
      have y43 : (ju M35 598 100 (v3 - 1)) 598 73 = v42 := ((ju_i _ _ (by decide)).trans e42)
      obtain ⟨v44, e44⟩ : ∃ z, M35 598 74 = z := ⟨_, rfl⟩
      have b44 : 0 ≤ v44 ∧ v44 ≤ 4 := by rw [← e44]; exact hI_M35 598 74 (by decide)
      have y45 : (ju M35 598 100 (v3 - 1)) 598 74 = v44 := ((ju_i _ _ (by decide)).trans e44)
      obtain ⟨v46, e46⟩ : ∃ z, M35 598 79 = z := ⟨_, rfl⟩
      have b46 : 0 ≤ v46 ∧ v46 ≤ 255 := by rw [← e46]; exact hI_M35 598 79 (by decide)
      have y47 : (ju M35 598 100 (v3 - 1)) 598 79 = v46 := ((ju_i _ _ (by decide)).trans e46)
      obtain ⟨v48, e48⟩ : ∃ z, M35 598 80 = z := ⟨_, rfl⟩
      have b48 : 0 ≤ v48 ∧ v48 ≤ 7 := by rw [← e48]; exact hI_M35 598 80 (by decide)
      have y49 : (ju M35 598 100 (v3 - 1)) 598 80 = v48 := ((ju_i _ _ (by decide)).trans e48)
      have e50 : M35 598 89 = v20 := ((w35_51 89 (by decide) (by decide) (by decide) (by decide) (by decide) (by decide) (by decide) (by decide) (by decide)).trans e32)
      have y51 : (ju M35 598 100 (v3 - 1)) 598 89 = v20 := ((ju_i _ _ (by decide)).trans e50)
      have e52 : M23 598 90 = v2 + 1 := ((w23_51 90 (by decide) (by decide) (by decide) (by decide) (by decide) (by decide) (by decide)).trans (ju_same _ _ _ _))
      have e53 : M35 598 90 = v2 + 1 := ((w35_51 90 (by decide) (by decide) (by decide) (by decide) (by decide) (by decide) (by decide) (by decide) (by decide)).trans e52)
      have y54 : (ju M35 598 100 (v3 - 1)) 598 90 = v2 + 1 := ((ju_i _ _ (by decide)).trans e53)
      have y55 : (ju M35 598 100 (v3 - 1)) 598 100 = v3 - 1 := (ju_same _ _ _ _)
      have e56 : M23 598 107 = v5 := ((w23_51 107 (by decide) (by decide) (by decide) (by decide) (by decide) (by decide) (by decide)).trans ((ju_i _ _ (by decide)).trans ((ju_c _ _ (by decide)).trans ((ju_c _ _ (by decide)).trans e5))))
      have e57 : M35 598 107 = v5 := ((w35_51 107 (by decide) (by decide) (by decide) (by decide) (by decide) (by decide) (by decide) (by decide) (by decide)).trans e56)
      have y58 : (ju M35 598 100 (v3 - 1)) 598 107 = v5 := ((ju_i _ _ (by decide)).trans e57)
      have y59 : TK (ju M35 598 100 (v3 - 1)) = TK M35 := ((TK.o (Or.inr ⟨by decide, by decide⟩)).trans rfl)
      obtain ⟨v60, e60⟩ : ∃ z, M35 598 75 = z := ⟨_, rfl⟩
      have b60 : 0 ≤ v60 ∧ v60 ≤ 1600 := by rw [← e60]; exact hI_M35 598 75 (by decide)
      have y61 : (ju M35 598 100 (v3 - 1)) 598 75 = v60 := ((ju_i _ _ (by decide)).trans e60)
      have y62 : (ju M35 598 100 (v3 - 1)) 598 80 = v48 := ((ju_i _ _ (by decide)).trans e48)
      obtain ⟨v63, e63⟩ : ∃ z, M35 598 81 = z := ⟨_, rfl⟩
      have b63 : (-1) ≤ v63 ∧ v63 ≤ 1600 := by rw [← e63]; exact hI_M35 598 81 (by decide)
      have y64 : (ju M35 598 100 (v3 - 1)) 598 81 = v63 := ((ju_i _ _ (by decide)).trans e63)
      have y65 : (ju M35 598 100 (v3 - 1)) 598 89 = v20 := ((ju_i _ _ (by decide)).trans e50)
      have y66 : (ju M35 598 100 (v3 - 1)) 598 100 = v3 - 1 := (ju_same _ _ _ _)
      exact jr.vreturn rfl rfl (q _ (RI.u hI_M35 (a := 598) (i := 100) (show (0 : Int) ≤ _ ∧ _ ≤ (13 : Int) from by omega)) (RH.o hH_M35 (by decide) (by decide) (by decide)) (RF.o hS_M35 (by decide) (by decide))  (Or.inr ⟨⟨by omega, ES.adj (ES.dep hE e39 (d' := 0) (by omega)) (k' := kk) (z' := 0) (by omega) (by omega) (by omega), by omega, by omega, by omega, by omega⟩, by omega⟩) (by omega) (by omega) (Or.inr (by omega)) (CP.o (CP.f (CP.f (CP.emit hCP e2) (fun i => w23_50 659 i (by decide)) (w23_51 90 (by decide) (by decide) (by decide) (by decide) (by decide) (by decide) (by decide))) (fun i => w35_50 659 i (by decide)) (w35_51 90 (by decide) (by decide) (by decide) (by decide) (by decide) (by decide) (by decide) (by decide) (by decide))) (by decide) (Or.inr (by decide))) (by omega) (TXr.o hT35 (by decide)) (fun q => by exfalso; omega) (fun _ => ⟨_, TKr.oo hK35 (by decide), zr.eq (zr.has hz4 hR1 (by omega) hR2 qs35) rfl rfl (by omega) (by omega) rfl rfl⟩) (fun q => by omega) (fun a i f598 f659 f660 => ((ju_c _ _ f598).trans ((w35_50 a i f598).trans ((w23_50 a i f598).trans ((ju_c _ _ f598).trans ((ju_c _ _ f660).trans ((ju_c _ _ f659).trans (hF_M a i f598 f659 f660)))))))) (fun i g73 g74 g75 g76 g77 g78 g79 g80 g81 g89 g90 g100 => ((ju_i _ _ g100).trans ((w35_51 i g73 g74 g75 g76 g77 g78 g79 g80 g81).trans ((w23_51 i g73 g74 g75 g76 g77 g78 g79).trans ((ju_i _ _ g90).trans ((ju_c _ _ (by decide)).trans ((ju_c _ _ (by decide)).trans (hG_M i g73 g74 g75 g76 g77 g78 g79 g80 g81 g89 g90 g100)))))))))
    · have x35_72 := w35_51 72 (by decide) (by decide) (by decide) (by decide) (by decide) (by decide) (by decide) (by decide) (by decide)
      have x35_89 := w35_51 89 (by decide) (by decide) (by decide) (by decide) (by decide) (by decide) (by decide) (by decide) (by decide)
      have x35_100 := w35_51 100 (by decide) (by decide) (by decide) (by decide) (by decide) (by decide) (by decide) (by decide) (by decide)
      have zfz : zr f N xs (zft (M35 598 80) (M35 598 81)) := zr.rfz (zr.has2 hz4 hR1 (by omega) hR2 qs35) q035 q135
      refine jr.aload_n rfl rfl ?_
      refine jr.dup rfl rfl ?_
      have e67 : M35 598 100 = v3 := ((w35_51 100 (by decide) (by decide) (by decide) (by decide) (by decide) (by decide) (by decide) (by decide) (by decide)).trans e33)
      refine jr.getf (i := 100) (x := v3) (v := .int (Int32.ofInt (v3))) rfl rfl (by decide) rfl (by decide) rfl rfl e67 rfl ?_
      refine jr.iconst rfl ?_
      refine jr.isub rfl ?_
      refine jr.putf (i := 100) (x := (v3 - 1)) rfl rfl (by decide) rfl (by decide) rfl rfl rfl rfl rfl ?_
      have e68 : M35 598 72 = v8 := ((w35_51 72 (by decide) (by decide) (by decide) (by decide) (by decide) (by decide) (by decide) (by decide) (by decide)).trans e28)
      have y69 : (ju M35 598 100 (v3 - 1)) 598 72 = v8 := ((ju_i _ _ (by decide)).trans e68)
      obtain ⟨v70, e70⟩ : ∃ z, M35 598 73 = z := ⟨_, rfl⟩
      have b70 : 0 ≤ v70 ∧ v70 ≤ 1600 := by rw [← e70]; exact hI_M35 598 73 (by decide)
      have y71 : (ju M35 598 100 (v3 - 1)) 598 73 = v70 := ((ju_i _ _ (by decide)).trans e70)
      obtain ⟨v72, e72⟩ : ∃ z, M35 598 74 = z := ⟨_, rfl⟩
      have b72 : 0 ≤ v72 ∧ v72 ≤ 4 := by rw [← e72]; exact hI_M35 598 74 (by decide)
      have y73 : (ju M35 598 100 (v3 - 1)) 598 74 = v72 := ((ju_i _ _ (by decide)).trans e72)
      obtain ⟨v74, e74⟩ : ∃ z, M35 598 79 = z := ⟨_, rfl⟩
      have b74 : 0 ≤ v74 ∧ v74 ≤ 255 := by rw [← e74]; exact hI_M35 598 79 (by decide)
      have y75 : (ju M35 598 100 (v3 - 1)) 598 79 = v74 := ((ju_i _ _ (by decide)).trans e74)
      obtain ⟨v76, e76⟩ : ∃ z, M35 598 80 = z := ⟨_, rfl⟩
      have b76 : 0 ≤ v76 ∧ v76 ≤ 7 := by rw [← e76]; exact hI_M35 598 80 (by decide)
      have y77 : (ju M35 598 100 (v3 - 1)) 598 80 = v76 := ((ju_i _ _ (by decide)).trans e76)
      have e78 : M35 598 89 = v20 := ((w35_51 89 (by decide) (by decide) (by decide) (by decide) (by decide) (by decide) (by decide) (by decide) (by decide)).trans e32)
      have y79 : (ju M35 598 100 (v3 - 1)) 598 89 = v20 := ((ju_i _ _ (by decide)).trans e78)
      have e80 : M23 598 90 = v2 + 1 := ((w23_51 90 (by decide) (by decide) (by decide) (by decide) (by decide) (by decide) (by decide)).trans (ju_same _ _ _ _))
      have e81 : M35 598 90 = v2 + 1 := ((w35_51 90 (by decide) (by decide) (by decide) (by decide) (by decide) (by decide) (by decide) (by decide) (by decide)).trans e80)
      have y82 : (ju M35 598 100 (v3 - 1)) 598 90 = v2 + 1 := ((ju_i _ _ (by decide)).trans e81)
      have y83 : (ju M35 598 100 (v3 - 1)) 598 100 = v3 - 1 := (ju_same _ _ _ _)
      have e84 : M23 598 107 = v5 := ((w23_51 107 (by decide) (by decide) (by decide) (by decide) (by decide) (by decide) (by decide)).trans ((ju_i _ _ (by decide)).trans ((ju_c _ _ (by decide)).trans ((ju_c _ _ (by decide)).trans e5))))
      have e85 : M35 598 107 = v5 := ((w35_51 107 (by decide) (by decide) (by decide) (by decide) (by decide) (by decide) (by decide) (by decide) (by decide)).trans e84)
      have y86 : (ju M35 598 100 (v3 - 1)) 598 107 = v5 := ((ju_i _ _ (by decide)).trans e85)
      have y87 : TK (ju M35 598 100 (v3 - 1)) = TK M35 := ((TK.o (Or.inr ⟨by decide, by decide⟩)).trans rfl)
      obtain ⟨v88, e88⟩ : ∃ z, M35 598 75 = z := ⟨_, rfl⟩
      have b88 : 0 ≤ v88 ∧ v88 ≤ 1600 := by rw [← e88]; exact hI_M35 598 75 (by decide)
      have y89 : (ju M35 598 100 (v3 - 1)) 598 75 = v88 := ((ju_i _ _ (by decide)).trans e88)
      have y90 : (ju M35 598 100 (v3 - 1)) 598 80 = v76 := ((ju_i _ _ (by decide)).trans e76)
      obtain ⟨v91, e91⟩ : ∃ z, M35 598 81 = z := ⟨_, rfl⟩
      have b91 : (-1) ≤ v91 ∧ v91 ≤ 1600 := by rw [← e91]; exact hI_M35 598 81 (by decide)
      have y92 : (ju M35 598 100 (v3 - 1)) 598 81 = v91 := ((ju_i _ _ (by decide)).trans e91)
      have y93 : (ju M35 598 100 (v3 - 1)) 598 89 = v20 := ((ju_i _ _ (by decide)).trans e78)
      have y94 : (ju M35 598 100 (v3 - 1)) 598 100 = v3 - 1 := (ju_same _ _ _ _)
      exact jr.vreturn rfl rfl (q _ (RI.u hI_M35 (a := 598) (i := 100) (show (0 : Int) ≤ _ ∧ _ ≤ (13 : Int) from by omega)) (RH.o hH_M35 (by decide) (by decide) (by decide)) (RF.o hS_M35 (by decide) (by decide))  (Or.inl ⟨by omega, by omega⟩) (by omega) (by omega) (Or.inl (by omega)) (CP.o (CP.f (CP.f (CP.emit hCP e2) (fun i => w23_50 659 i (by decide)) (w23_51 90 (by decide) (by decide) (by decide) (by decide) (by decide) (by decide) (by decide))) (fun i => w35_50 659 i (by decide)) (w35_51 90 (by decide) (by decide) (by decide) (by decide) (by decide) (by decide) (by decide) (by decide) (by decide))) (by decide) (Or.inr (by decide))) (by omega) (TXr.o hT35 (by decide)) (fun _ => zr.fe zfz (by omega) (by omega)) (fun q => by exfalso; omega) (fun q => by omega) (fun a i f598 f659 f660 => ((ju_c _ _ f598).trans ((w35_50 a i f598).trans ((w23_50 a i f598).trans ((ju_c _ _ f598).trans ((ju_c _ _ f660).trans ((ju_c _ _ f659).trans (hF_M a i f598 f659 f660)))))))) (fun i g73 g74 g75 g76 g77 g78 g79 g80 g81 g89 g90 g100 => ((ju_i _ _ g100).trans ((w35_51 i g73 g74 g75 g76 g77 g78 g79 g80 g81).trans ((w23_51 i g73 g74 g75 g76 g77 g78 g79).trans ((ju_i _ _ g90).trans ((ju_c _ _ (by decide)).trans ((ju_c _ _ (by decide)).trans (hG_M i g73 g74 g75 g76 g77 g78 g79 g80 g81 g89 g90 g100)))))))))
theorem r_hasKind_z {A : Nat → Option (Nat × (Nat → Int32))} {Q : Option Value → jm → Prop} {f : Int → Int} {N : Int} {b kk : Int} {xs : ZS} {t cc bh : Int} {sg : List (Int × Int × Int × Int)} {nm ak : List Int} {M : jm} (hI_M : RI M) (hH_M : RH M) (hS_M : RF M) (p0 : GS M b 0 kk) (p1 : (M 598 74 = 1 ∧ M 598 76 = 24)) (p2 : TKr f N t M) (p3 : zr f N xs (2, t, M 598 89, M 598 100, cc, bh, sg, nm, ak)) (q : ∀ (M' : jm), RI M' → RH M' → RF M' → (BS M' ∨ (GS M' b 1 kk ∧ TK M' < TK M)) → TK M' ≤ TK M → M' 598 73 ≤ M' 598 72 → (M' 598 80 ≠ 0 ∨ TK M' < TK M) → CP M M' → M 598 89 ≤ M' 598 89 → TXr f N M' → ZFQ f N xs M' → ZOQ f N xs (3) M' cc bh sg nm ak → K8Q M M' → (∀ (a : Nat) (i : Int), a ≠ 598 → a ≠ 659 → a ≠ 660 → M' a i = M a i) → (∀ (i : Int), i ≠ 73 → i ≠ 74 → i ≠ 75 → i ≠ 76 → i ≠ 77 → i ≠ 78 → i ≠ 79 → i ≠ 80 → i ≠ 81 → i ≠ 89 → i ≠ 90 → i ≠ 100 → M' 598 i = M 598 i) → Q none M') : jc A 5 359 [.ref (598)] M Q := by
  obtain ⟨gs1, gs2, gs3, gs4, gs5, gs6⟩ := id p0
  have hE := gs2
  have sl := ES.sgle gs2
  have bb := ES.bb gs2
  have kb := ES.kz gs2
  have b107 : (0 : Int) ≤ M 598 107 ∧ M 598 107 ≤ 16 := hI_M 598 107 (by decide)
  have b73 : (0 : Int) ≤ M 598 73 ∧ M 598 73 ≤ 1600 := hI_M 598 73 (by decide)
  have b88 : (0 : Int) ≤ M 598 88 ∧ M 598 88 ≤ 16 := hI_M 598 88 (by decide)
  have b100 : (0 : Int) ≤ M 598 100 ∧ M 598 100 ≤ 13 := hI_M 598 100 (by decide)
  have hK := p2
  have kk0 := hK.kz
  have hT := hK.1
  have hz := p3
  have w0t := hK.wz p1.1
  refine jc_of (m := xm_359) rfl (Nat.le_of_ble_eq_true rfl) rfl ?_
  refine jr.aload_n rfl rfl ?_
  obtain ⟨v1, e1⟩ : ∃ z, M 598 80 = z := ⟨_, rfl⟩
  have b1 : 0 ≤ v1 ∧ v1 ≤ 7 := by rw [← e1]; exact hI_M 598 80 (by decide)
  obtain ⟨v2, e2⟩ : ∃ z, M 598 89 = z := ⟨_, rfl⟩
  have b2 : 0 ≤ v2 ∧ v2 ≤ 301 := by rw [← e2]; exact hI_M 598 89 (by decide)
  obtain ⟨v3, e3⟩ : ∃ z, M 598 100 = z := ⟨_, rfl⟩
  have b3 : 0 ≤ v3 ∧ v3 ≤ 13 := by rw [← e3]; exact hI_M 598 100 (by decide)
  obtain ⟨v4, e4⟩ : ∃ z, M 598 81 = z := ⟨_, rfl⟩
  have b4 : (-1) ≤ v4 ∧ v4 ≤ 1600 := by rw [← e4]; exact hI_M 598 81 (by decide)
  obtain ⟨v6, e6⟩ : ∃ z, M 598 73 = z := ⟨_, rfl⟩
  have b6 : 0 ≤ v6 ∧ v6 ≤ 1600 := by rw [← e6]; exact hI_M 598 73 (by decide)
  refine jr_v rfl rfl (Or.inl rfl) rfl rfl (by decide) rfl ⟨rfl, Nat.le_of_ble_eq_true rfl, Nat.le_of_ble_eq_true rfl⟩ rfl (jc.deep (c_node_z (f := f) (N := N) hI_M hH_M hS_M (by rw [e2]; omega) (by rw [e1]; omega) (fun M5 hI_M5 hH_M5 hS_M5 q95 ql5 q05 q15 w5_50 w5_51 => ?_) (fun M5 hI_M5 hH_M5 hS_M5 q95 ql5 q05 q15 w5_50 w5_51 => ?_)) (by decide))
  · have tk5 : TK M5 = TK M := TK.fr (w5_51 73 (by decide) (by decide) (by decide)) (w5_51 74 (by decide) (by decide) (by decide))
    have x5_72 := w5_51 72 (by decide) (by decide) (by decide)
    have x5_73 := w5_51 73 (by decide) (by decide) (by decide)
    have x5_74 := w5_51 74 (by decide) (by decide) (by decide)
    have x5_75 := w5_51 75 (by decide) (by decide) (by decide)
    have x5_76 := w5_51 76 (by decide) (by decide) (by decide)
    have x5_78 := w5_51 78 (by decide) (by decide) (by decide)
    have x5_79 := w5_51 79 (by decide) (by decide) (by decide)
    have x5_100 := w5_51 100 (by decide) (by decide) (by decide)
    have y7 : M 598 73 = v6 := e6
    have y8 : M 598 89 = v2 := e2
    have y9 : M 598 100 = v3 := e3
    have x5_73 := w5_51 73 (by decide) (by decide) (by decide)
    have x5_100 := w5_51 100 (by decide) (by decide) (by decide)
    have hE := ES.fr2 hE w5_50 (w5_51 88 (by decide) (by decide) (by decide)) (w5_51 90 (by decide) (by decide) (by decide)) (w5_51 101 (by decide) (by decide) (by decide)) (w5_51 102 (by decide) (by decide) (by decide)) (w5_51 107 (by decide) (by decide) (by decide)) (k' := kk + 4) (d' := 0) (z' := 0) (by omega) (by omega) (by omega) (by omega)
    refine jr.aload_n rfl rfl ?_
    obtain ⟨v10, e10⟩ : ∃ z, M5 598 80 = z := ⟨_, rfl⟩
    have b10 : 0 ≤ v10 ∧ v10 ≤ 7 := by rw [← e10]; exact hI_M5 598 80 (by decide)
    refine jr_v rfl rfl (Or.inl rfl) rfl rfl (by decide) rfl ⟨rfl, Nat.le_of_ble_eq_true rfl, Nat.le_of_ble_eq_true rfl⟩ rfl (jc.deep (c_good hI_M5  (fun t5_0 => ?_) (fun f5_0 => ?_)) (by decide))
    · refine jr.if_eq rfl rfl (by omega) (fun h => absurd h (by decide)) (fun _ => ?_)
      refine jr.aload_n rfl rfl ?_
      have e11 : M5 598 73 = v6 := ((w5_51 73 (by decide) (by decide) (by decide)).trans e6)
      obtain ⟨v12, e12⟩ : ∃ z, M 598 72 = z := ⟨_, rfl⟩
      have b12 : 0 ≤ v12 ∧ v12 ≤ 1600 := by rw [← e12]; exact hI_M 598 72 (by decide)
      have e13 : M5 598 72 = v12 := ((w5_51 72 (by decide) (by decide) (by decide)).trans e12)
      obtain ⟨v14, e14⟩ : ∃ z, M 598 74 = z := ⟨_, rfl⟩
      have b14 : 0 ≤ v14 ∧ v14 ≤ 4 := by rw [← e14]; exact hI_M 598 74 (by decide)
      have e15 : M5 598 74 = v14 := ((w5_51 74 (by decide) (by decide) (by decide)).trans e14)
      obtain ⟨v16, e16⟩ : ∃ z, M5 598 89 = z := ⟨_, rfl⟩
      have b16 : 0 ≤ v16 ∧ v16 ≤ 301 := by rw [← e16]; exact hI_M5 598 89 (by decide)
      have e17 : M5 598 100 = v3 := ((w5_51 100 (by decide) (by decide) (by decide)).trans e3)
      obtain ⟨v18, e18⟩ : ∃ z, M5 598 81 = z := ⟨_, rfl⟩
      have b18 : (-1) ≤ v18 ∧ v18 ≤ 1600 := by rw [← e18]; exact hI_M5 598 81 (by decide)
      refine jr_v rfl rfl (Or.inl rfl) rfl rfl (by decide) rfl ⟨rfl, Nat.le_of_ble_eq_true rfl, Nat.le_of_ble_eq_true rfl⟩ rfl (jc.deep (c_next_z (f := f) (N := N) hI_M5 hH_M5 hS_M5 (by rw [e11, e13]; omega) (TKr.fr hK (w5_51 72 (by decide) (by decide) (by decide)) (fun i => w5_50 651 i (by decide)) (fun i => w5_50 649 i (by decide)) (fun i => w5_50 650 i (by decide)) (w5_51 73 (by decide) (by decide) (by decide)) (w5_51 74 (by decide) (by decide) (by decide)) (w5_51 75 (by decide) (by decide) (by decide)) (w5_51 76 (by decide) (by decide) (by decide)) (w5_51 77 (by decide) (by decide) (by decide)) (w5_51 78 (by decide) (by decide) (by decide)) (w5_51 79 (by decide) (by decide) (by decide))) (by rw [e10]; omega) (by rw [e15]; omega) (fun M19 hI_M19 hH_M19 hS_M19 qa19 qb19 qt19 sn19 hK19 w19_50 w19_51 => ?_)) (by decide))
      have x19_72 := w19_51 72 (by decide) (by decide) (by decide) (by decide) (by decide) (by decide) (by decide)
      have x19_80 := w19_51 80 (by decide) (by decide) (by decide) (by decide) (by decide) (by decide) (by decide)
      have x19_81 := w19_51 81 (by decide) (by decide) (by decide) (by decide) (by decide) (by decide) (by decide)
      have x19_89 := w19_51 89 (by decide) (by decide) (by decide) (by decide) (by decide) (by decide) (by decide)
      have x19_100 := w19_51 100 (by decide) (by decide) (by decide) (by decide) (by decide) (by decide) (by decide)
      have hT19 := hK19.1
      have kk19 := hK19.kz
      have y20 : M5 598 73 = v6 := e11
      have y21 : M5 598 89 = v16 := e16
      have y22 : M5 598 100 = v3 := e17
      have x19_89 := w19_51 89 (by decide) (by decide) (by decide) (by decide) (by decide) (by decide) (by decide)
      have x19_100 := w19_51 100 (by decide) (by decide) (by decide) (by decide) (by decide) (by decide) (by decide)
      have hE := ES.fr2 hE w19_50 (w19_51 88 (by decide) (by decide) (by decide) (by decide) (by decide) (by decide) (by decide)) (w19_51 90 (by decide) (by decide) (by decide) (by decide) (by decide) (by decide) (by decide)) (w19_51 101 (by decide) (by decide) (by decide) (by decide) (by decide) (by decide) (by decide)) (w19_51 102 (by decide) (by decide) (by decide) (by decide) (by decide) (by decide) (by decide)) (w19_51 107 (by decide) (by decide) (by decide) (by decide) (by decide) (by decide) (by decide)) (k' := kk + 4) (d' := 0) (z' := 0) (by omega) (by omega) (by omega) (by omega)
      have hz4 := zr.whas hz w0t.1 (by omega) (by omega)
      refine jr.aload_n rfl rfl ?_
      refine jr.bipush rfl (by decide) ?_
      obtain ⟨v23, e23⟩ : ∃ z, M19 598 73 = z := ⟨_, rfl⟩
      have b23 : 0 ≤ v23 ∧ v23 ≤ 1600 := by rw [← e23]; exact hI_M19 598 73 (by decide)
      have e24 : M19 598 72 = v12 := ((w19_51 72 (by decide) (by decide) (by decide) (by decide) (by decide) (by decide) (by decide)).trans e13)
      have e25 : M19 598 80 = v10 := ((w19_51 80 (by decide) (by decide) (by decide) (by decide) (by decide) (by decide) (by decide)).trans e10)
      have e26 : M19 598 100 = v3 := ((w19_51 100 (by decide) (by decide) (by decide) (by decide) (by decide) (by decide) (by decide)).trans e17)
      obtain ⟨v27, e27⟩ : ∃ z, M19 598 74 = z := ⟨_, rfl⟩
      have b27 : 0 ≤ v27 ∧ v27 ≤ 4 := by rw [← e27]; exact hI_M19 598 74 (by decide)
      obtain ⟨v28, e28⟩ : ∃ z, M19 598 79 = z := ⟨_, rfl⟩
      have b28 : 0 ≤ v28 ∧ v28 ≤ 255 := by rw [← e28]; exact hI_M19 598 79 (by decide)
      have e29 : M19 598 89 = v16 := ((w19_51 89 (by decide) (by decide) (by decide) (by decide) (by decide) (by decide) (by decide)).trans e16)
      have e30 : M19 598 81 = v18 := ((w19_51 81 (by decide) (by decide) (by decide) (by decide) (by decide) (by decide) (by decide)).trans e18)
      refine jr_v rfl rfl (Or.inl rfl) rfl rfl (by decide) rfl ⟨rfl, Nat.le_of_ble_eq_true rfl, Nat.le_of_ble_eq_true rfl⟩ rfl (jc.deep (c_wantDeeper_z (f := f) (N := N) hI_M19 hH_M19 hS_M19 (by omega) (by rw [e23, e24]; omega) hK19 (by rw [e25]; omega) (by rw [e26]; omega) (by rw [e27, e28]; intro q; omega) (fun M31 hI_M31 hH_M31 hS_M31 qa31 qb31 qt31 qd31 ql31 sn31 q031 q131 qs31 hK31 w31_50 w31_51 => ?_) (fun M31 hI_M31 hH_M31 hS_M31 qa31 qb31 qt31 ql31 q031 q131 qs31 hT31 w31_50 w31_51 => ?_) (fun M31 hI_M31 hH_M31 hS_M31 qa31 qb31 qt31 qn31 q031 q131 qs31 hT31 w31_50 w31_51 => ?_)) (by decide))
      · have x31_72 := w31_51 72 (by decide) (by decide) (by decide) (by decide) (by decide) (by decide) (by decide) (by decide) (by decide) (by decide)
        have x31_89 := w31_51 89 (by decide) (by decide) (by decide) (by decide) (by decide) (by decide) (by decide) (by decide) (by decide) (by decide)
        have hT31 := hK31.1
        have kk31 := hK31.kz
        have y32 : M19 598 73 = v23 := e23
        have y33 : M19 598 89 = v16 := e29
        have y34 : M19 598 100 = v3 := e26
        have x31_89 := w31_51 89 (by decide) (by decide) (by decide) (by decide) (by decide) (by decide) (by decide) (by decide) (by decide) (by decide)
        have hE := ES.fr2 hE w31_50 (w31_51 88 (by decide) (by decide) (by decide) (by decide) (by decide) (by decide) (by decide) (by decide) (by decide) (by decide)) (w31_51 90 (by decide) (by decide) (by decide) (by decide) (by decide) (by decide) (by decide) (by decide) (by decide) (by decide)) (w31_51 101 (by decide) (by decide) (by decide) (by decide) (by decide) (by decide) (by decide) (by decide) (by decide) (by decide)) (w31_51 102 (by decide) (by decide) (by decide) (by decide) (by decide) (by decide) (by decide) (by decide) (by decide) (by decide)) (w31_51 107 (by decide) (by decide) (by decide) (by decide) (by decide) (by decide) (by decide) (by decide) (by decide) (by decide)) (k' := kk + 4) (d' := 1) (z' := 0) (by omega) (by omega) (by omega) (by omega)
        refine jr.aload_n rfl rfl ?_
        obtain ⟨v35, e35⟩ : ∃ z, M31 598 80 = z := ⟨_, rfl⟩
        have b35 : 0 ≤ v35 ∧ v35 ≤ 7 := by rw [← e35]; exact hI_M31 598 80 (by decide)
        refine jr_v rfl rfl (Or.inl rfl) rfl rfl (by decide) rfl ⟨rfl, Nat.le_of_ble_eq_true rfl, Nat.le_of_ble_eq_true rfl⟩ rfl (jc.deep (c_good hI_M31  (fun t22_0 => ?_) (fun f22_0 => ?_)) (by decide))
        · refine jr.if_eq rfl rfl (by omega) (fun h => absurd h (by decide)) (fun _ => ?_)
          refine jr.aload_n rfl rfl ?_
          refine jr.bipush rfl (by decide) ?_
          refine jr.bipush rfl (by decide) ?_
          refine jr_v rfl rfl (Or.inl rfl) rfl rfl (by decide) rfl ⟨rfl, Nat.le_of_ble_eq_true rfl, Nat.le_of_ble_eq_true rfl⟩ rfl (jc.deep (c_isWordIn_z hI_M31 (by omega) (by omega) (fun t33_0 t33_1 t33_2 => ?_) (fun f33_0 => ?_)) (by decide))
          · refine jr.if_ne rfl rfl (by omega) (fun _ => ?_) (fun h => absurd (by decide) h)
            refine jr.aload_n rfl rfl ?_
            refine jr_v rfl rfl (Or.inl rfl) rfl rfl (by decide) rfl ⟨rfl, Nat.le_of_ble_eq_true rfl, Nat.le_of_ble_eq_true rfl⟩ rfl (jc.deep (c_good hI_M31  (fun t44_0 => ?_) (fun f44_0 => ?_)) (by decide))
            · refine jr.if_ne rfl rfl (by omega) (fun _ => ?_) (fun h => absurd (by decide) h)
              have e36 : M31 598 89 = v16 := ((w31_51 89 (by decide) (by decide) (by decide) (by decide) (by decide) (by decide) (by decide) (by decide) (by decide) (by decide)).trans e29)
              obtain ⟨v37, e37⟩ : ∃ z, M31 598 100 = z := ⟨_, rfl⟩
              have b37 : 0 ≤ v37 ∧ v37 ≤ 13 := by rw [← e37]; exact hI_M31 598 100 (by decide)
              obtain ⟨v38, e38⟩ : ∃ z, M31 598 73 = z := ⟨_, rfl⟩
              have b38 : 0 ≤ v38 ∧ v38 ≤ 1600 := by rw [← e38]; exact hI_M31 598 73 (by decide)
              have e39 : M31 598 72 = v12 := ((w31_51 72 (by decide) (by decide) (by decide) (by decide) (by decide) (by decide) (by decide) (by decide) (by decide) (by decide)).trans e24)
              obtain ⟨v40, e40⟩ : ∃ z, M 598 90 = z := ⟨_, rfl⟩
              have b40 : 0 ≤ v40 ∧ v40 ≤ 2200 := by rw [← e40]; exact hI_M 598 90 (by decide)
              have e41 : M5 598 90 = v40 := ((w5_51 90 (by decide) (by decide) (by decide)).trans e40)
              have e42 : M19 598 90 = v40 := ((w19_51 90 (by decide) (by decide) (by decide) (by decide) (by decide) (by decide) (by decide)).trans e41)
              have e43 : M31 598 90 = v40 := ((w31_51 90 (by decide) (by decide) (by decide) (by decide) (by decide) (by decide) (by decide) (by decide) (by decide) (by decide)).trans e42)
              obtain ⟨v44, e44⟩ : ∃ z, M31 598 74 = z := ⟨_, rfl⟩
              have b44 : 0 ≤ v44 ∧ v44 ≤ 4 := by rw [← e44]; exact hI_M31 598 74 (by decide)
              obtain ⟨v45, e45⟩ : ∃ z, M31 598 76 = z := ⟨_, rfl⟩
              have b45 : (-1) ≤ v45 ∧ v45 ≤ 68 := by rw [← e45]; exact hI_M31 598 76 (by decide)
              obtain ⟨v46, e46⟩ : ∃ z, M31 598 81 = z := ⟨_, rfl⟩
              have b46 : (-1) ≤ v46 ∧ v46 ≤ 1600 := by rw [← e46]; exact hI_M31 598 81 (by decide)
              refine jr.pick [0] rfl rfl ?_
              exact r_hasKind_L51_z q M31  hI_M31 hH_M31 hS_M31  (fun a i f598 f659 f660 => ((w31_50 a i f598).trans ((w19_50 a i f598).trans ((w5_50 a i f598).trans rfl)))) (fun i g73 g74 g75 g76 g77 g78 g79 g80 g81 g89 g90 g100 => ((w31_51 i g73 g74 g75 g76 g77 g78 g79 g80 g81 g100).trans ((w19_51 i g73 g74 g75 g76 g77 g78 g79).trans ((w5_51 i g80 g81 g89).trans rfl))))  hE (by rw [e35] <;> omega) (by rw [e36] <;> omega) (by rw [e37] <;> omega) (by rw [e38, e39] <;> omega) (by omega) (by rw [e43] <;> omega) (by rw [e44] <;> omega) (by rw [e45] <;> omega) (CP.f (CP.f (CP.f (CP.rfl _) (fun i => w5_50 659 i (by decide)) (w5_51 90 (by decide) (by decide) (by decide))) (fun i => w19_50 659 i (by decide)) (w19_51 90 (by decide) (by decide) (by decide) (by decide) (by decide) (by decide) (by decide))) (fun i => w31_50 659 i (by decide)) (w31_51 90 (by decide) (by decide) (by decide) (by decide) (by decide) (by decide) (by decide) (by decide) (by decide) (by decide))) (by omega) (by rw [e36] <;> omega) hK31 (zr.eq hz4 rfl rfl (by omega) (by omega) rfl rfl) qs31 (by have q := (hK31).wz (by omega); omega) (by rw [e46] <;> omega)
            · exfalso
              omega
          · refine jr.if_ne rfl rfl (by omega) (fun h => absurd h (by decide)) (fun _ => ?_)
            refine jr.aload_n rfl rfl ?_
            have e47 : M31 598 89 = v16 := ((w31_51 89 (by decide) (by decide) (by decide) (by decide) (by decide) (by decide) (by decide) (by decide) (by decide) (by decide)).trans e29)
            obtain ⟨v48, e48⟩ : ∃ z, M31 598 100 = z := ⟨_, rfl⟩
            have b48 : 0 ≤ v48 ∧ v48 ≤ 13 := by rw [← e48]; exact hI_M31 598 100 (by decide)
            obtain ⟨v49, e49⟩ : ∃ z, M31 598 81 = z := ⟨_, rfl⟩
            have b49 : (-1) ≤ v49 ∧ v49 ≤ 1600 := by rw [← e49]; exact hI_M31 598 81 (by decide)
            refine jr_v rfl rfl (Or.inl rfl) rfl rfl (by decide) rfl ⟨rfl, Nat.le_of_ble_eq_true rfl, Nat.le_of_ble_eq_true rfl⟩ rfl (jc.deep (c_wrongToken_z (f := f) (N := N) hI_M31 hH_M31 hS_M31 hK31 (by rw [e35]; omega) (fun M50 hI_M50 hH_M50 hS_M50 qn50 q050 q150 w50_50 w50_51 => ?_)) (by decide))
            have tk50 : TK M50 = TK M31 := TK.fr (w50_51 73 (by decide) (by decide)) (w50_51 74 (by decide) (by decide))
            have x50_72 := w50_51 72 (by decide) (by decide)
            have x50_73 := w50_51 73 (by decide) (by decide)
            have x50_74 := w50_51 74 (by decide) (by decide)
            have x50_75 := w50_51 75 (by decide) (by decide)
            have x50_76 := w50_51 76 (by decide) (by decide)
            have x50_78 := w50_51 78 (by decide) (by decide)
            have x50_79 := w50_51 79 (by decide) (by decide)
            have x50_89 := w50_51 89 (by decide) (by decide)
            have x50_100 := w50_51 100 (by decide) (by decide)
            have zfz := zr.rfz (zr.has1 hz4 qs31 (by omega) (fun z => by have q := hK31.wz (by omega); omega)) q050 q150
            refine jr.aload_n rfl rfl ?_
            obtain ⟨v51, e51⟩ : ∃ z, M50 598 80 = z := ⟨_, rfl⟩
            have b51 : 0 ≤ v51 ∧ v51 ≤ 7 := by rw [← e51]; exact hI_M50 598 80 (by decide)
            refine jr_v rfl rfl (Or.inl rfl) rfl rfl (by decide) rfl ⟨rfl, Nat.le_of_ble_eq_true rfl, Nat.le_of_ble_eq_true rfl⟩ rfl (jc.deep (c_good hI_M50  (fun t44_0 => ?_) (fun f44_0 => ?_)) (by decide))
            · exfalso
              omega
            · refine jr.if_ne rfl rfl (by omega) (fun h => absurd h (by decide)) (fun _ => ?_)
              have e52 : M31 598 72 = v12 := ((w31_51 72 (by decide) (by decide) (by decide) (by decide) (by decide) (by decide) (by decide) (by decide) (by decide) (by decide)).trans e24)
              have e53 : M50 598 72 = v12 := ((w50_51 72 (by decide) (by decide)).trans e52)
              have y54 : M50 598 72 = v12 := e53
              obtain ⟨v55, e55⟩ : ∃ z, M31 598 73 = z := ⟨_, rfl⟩
              have b55 : 0 ≤ v55 ∧ v55 ≤ 1600 := by rw [← e55]; exact hI_M31 598 73 (by decide)
              have e56 : M50 598 73 = v55 := ((w50_51 73 (by decide) (by decide)).trans e55)
              have y57 : M50 598 73 = v55 := e56
              obtain ⟨v58, e58⟩ : ∃ z, M31 598 74 = z := ⟨_, rfl⟩
              have b58 : 0 ≤ v58 ∧ v58 ≤ 4 := by rw [← e58]; exact hI_M31 598 74 (by decide)
              have e59 : M50 598 74 = v58 := ((w50_51 74 (by decide) (by decide)).trans e58)
              have y60 : M50 598 74 = v58 := e59
              obtain ⟨v61, e61⟩ : ∃ z, M31 598 79 = z := ⟨_, rfl⟩
              have b61 : 0 ≤ v61 ∧ v61 ≤ 255 := by rw [← e61]; exact hI_M31 598 79 (by decide)
              have e62 : M50 598 79 = v61 := ((w50_51 79 (by decide) (by decide)).trans e61)
              have y63 : M50 598 79 = v61 := e62
              have y64 : M50 598 80 = v51 := e51
              have e65 : M50 598 89 = v16 := ((w50_51 89 (by decide) (by decide)).trans e47)
              have y66 : M50 598 89 = v16 := e65
              obtain ⟨v67, e67⟩ : ∃ z, M 598 90 = z := ⟨_, rfl⟩
              have b67 : 0 ≤ v67 ∧ v67 ≤ 2200 := by rw [← e67]; exact hI_M 598 90 (by decide)
              have e68 : M5 598 90 = v67 := ((w5_51 90 (by decide) (by decide) (by decide)).trans e67)
              have e69 : M19 598 90 = v67 := ((w19_51 90 (by decide) (by decide) (by decide) (by decide) (by decide) (by decide) (by decide)).trans e68)
              have e70 : M31 598 90 = v67 := ((w31_51 90 (by decide) (by decide) (by decide) (by decide) (by decide) (by decide) (by decide) (by decide) (by decide) (by decide)).trans e69)
              have e71 : M50 598 90 = v67 := ((w50_51 90 (by decide) (by decide)).trans e70)
              have y72 : M50 598 90 = v67 := e71
              have e73 : M50 598 100 = v48 := ((w50_51 100 (by decide) (by decide)).trans e48)
              have y74 : M50 598 100 = v48 := e73
              obtain ⟨v75, e75⟩ : ∃ z, M 598 107 = z := ⟨_, rfl⟩
              have b75 : 0 ≤ v75 ∧ v75 ≤ 16 := by rw [← e75]; exact hI_M 598 107 (by decide)
              have e76 : M5 598 107 = v75 := ((w5_51 107 (by decide) (by decide) (by decide)).trans e75)
              have e77 : M19 598 107 = v75 := ((w19_51 107 (by decide) (by decide) (by decide) (by decide) (by decide) (by decide) (by decide)).trans e76)
              have e78 : M31 598 107 = v75 := ((w31_51 107 (by decide) (by decide) (by decide) (by decide) (by decide) (by decide) (by decide) (by decide) (by decide) (by decide)).trans e77)
              have e79 : M50 598 107 = v75 := ((w50_51 107 (by decide) (by decide)).trans e78)
              have y80 : M50 598 107 = v75 := e79
              obtain ⟨v81, e81⟩ : ∃ z, M31 598 75 = z := ⟨_, rfl⟩
              have b81 : 0 ≤ v81 ∧ v81 ≤ 1600 := by rw [← e81]; exact hI_M31 598 75 (by decide)
              have e82 : M50 598 75 = v81 := ((w50_51 75 (by decide) (by decide)).trans e81)
              have y83 : M50 598 75 = v81 := e82
              have y84 : M50 598 80 = v51 := e51
              obtain ⟨v85, e85⟩ : ∃ z, M50 598 81 = z := ⟨_, rfl⟩
              have b85 : (-1) ≤ v85 ∧ v85 ≤ 1600 := by rw [← e85]; exact hI_M50 598 81 (by decide)
              have y86 : M50 598 81 = v85 := e85
              have y87 : M50 598 89 = v16 := e65
              have y88 : M50 598 100 = v48 := e73
              exact jr.vreturn rfl rfl (q _ hI_M50 hH_M50 hS_M50  (Or.inl ⟨by omega, by omega⟩) (by omega) (by omega) (Or.inl (by omega)) (CP.f (CP.f (CP.f (CP.f (CP.rfl _) (fun i => w5_50 659 i (by decide)) (w5_51 90 (by decide) (by decide) (by decide))) (fun i => w19_50 659 i (by decide)) (w19_51 90 (by decide) (by decide) (by decide) (by decide) (by decide) (by decide) (by decide))) (fun i => w31_50 659 i (by decide)) (w31_51 90 (by decide) (by decide) (by decide) (by decide) (by decide) (by decide) (by decide) (by decide) (by decide) (by decide))) (fun i => w50_50 659 i (by decide)) (w50_51 90 (by decide) (by decide))) (by omega) (TXr.fr hT31 (w50_51 72 (by decide) (by decide)) (fun i => w50_50 651 i (by decide)) (fun i => w50_50 649 i (by decide)) (fun i => w50_50 650 i (by decide))) (fun _ => zr.fe zfz (by omega) (by omega)) (fun q => by exfalso; omega) (fun q => by omega) (fun a i f598 f659 f660 => ((w50_50 a i f598).trans ((w31_50 a i f598).trans ((w19_50 a i f598).trans ((w5_50 a i f598).trans rfl))))) (fun i g73 g74 g75 g76 g77 g78 g79 g80 g81 g89 g90 g100 => ((w50_51 i g80 g81).trans ((w31_51 i g73 g74 g75 g76 g77 g78 g79 g80 g81 g100).trans ((w19_51 i g73 g74 g75 g76 g77 g78 g79).trans ((w5_51 i g80 g81 g89).trans rfl))))))
        · exfalso
          omega
      · have x31_72 := w31_51 72 (by decide) (by decide) (by decide) (by decide) (by decide) (by decide) (by decide) (by decide) (by decide) (by decide)
        have x31_89 := w31_51 89 (by decide) (by decide) (by decide) (by decide) (by decide) (by decide) (by decide) (by decide) (by decide) (by decide)
        have zfz : zr f N xs (zft (M31 598 80) (M31 598 81)) := zr.fe (zr.hasd hz4 qs31 (by omega)) q031 q131
        refine jr.aload_n rfl rfl ?_
        obtain ⟨v89, e89⟩ : ∃ z, M31 598 80 = z := ⟨_, rfl⟩
        have b89 : 0 ≤ v89 ∧ v89 ≤ 7 := by rw [← e89]; exact hI_M31 598 80 (by decide)
        refine jr_v rfl rfl (Or.inl rfl) rfl rfl (by decide) rfl ⟨rfl, Nat.le_of_ble_eq_true rfl, Nat.le_of_ble_eq_true rfl⟩ rfl (jc.deep (c_good hI_M31  (fun t22_0 => ?_) (fun f22_0 => ?_)) (by decide))
        · exfalso
          omega
        · refine jr.if_eq rfl rfl (by omega) (fun _ => ?_) (fun h => absurd (by decide) h)
          refine jr.aload_n rfl rfl ?_
          refine jr_v rfl rfl (Or.inl rfl) rfl rfl (by decide) rfl ⟨rfl, Nat.le_of_ble_eq_true rfl, Nat.le_of_ble_eq_true rfl⟩ rfl (jc.deep (c_good hI_M31  (fun t44_0 => ?_) (fun f44_0 => ?_)) (by decide))
          · exfalso
            omega
          · refine jr.if_ne rfl rfl (by omega) (fun h => absurd h (by decide)) (fun _ => ?_)
            have e90 : M31 598 72 = v12 := ((w31_51 72 (by decide) (by decide) (by decide) (by decide) (by decide) (by decide) (by decide) (by decide) (by decide) (by decide)).trans e24)
            have y91 : M31 598 72 = v12 := e90
            obtain ⟨v92, e92⟩ : ∃ z, M31 598 73 = z := ⟨_, rfl⟩
            have b92 : 0 ≤ v92 ∧ v92 ≤ 1600 := by rw [← e92]; exact hI_M31 598 73 (by decide)
            have y93 : M31 598 73 = v92 := e92
            obtain ⟨v94, e94⟩ : ∃ z, M31 598 74 = z := ⟨_, rfl⟩
            have b94 : 0 ≤ v94 ∧ v94 ≤ 4 := by rw [← e94]; exact hI_M31 598 74 (by decide)
            have y95 : M31 598 74 = v94 := e94
            obtain ⟨v96, e96⟩ : ∃ z, M31 598 79 = z := ⟨_, rfl⟩
            have b96 : 0 ≤ v96 ∧ v96 ≤ 255 := by rw [← e96]; exact hI_M31 598 79 (by decide)
            have y97 : M31 598 79 = v96 := e96
            have y98 : M31 598 80 = v89 := e89
            have e99 : M31 598 89 = v16 := ((w31_51 89 (by decide) (by decide) (by decide) (by decide) (by decide) (by decide) (by decide) (by decide) (by decide) (by decide)).trans e29)
            have y100 : M31 598 89 = v16 := e99
            obtain ⟨v101, e101⟩ : ∃ z, M 598 90 = z := ⟨_, rfl⟩
            have b101 : 0 ≤ v101 ∧ v101 ≤ 2200 := by rw [← e101]; exact hI_M 598 90 (by decide)
            have e102 : M5 598 90 = v101 := ((w5_51 90 (by decide) (by decide) (by decide)).trans e101)
            have e103 : M19 598 90 = v101 := ((w19_51 90 (by decide) (by decide) (by decide) (by decide) (by decide) (by decide) (by decide)).trans e102)
            have e104 : M31 598 90 = v101 := ((w31_51 90 (by decide) (by decide) (by decide) (by decide) (by decide) (by decide) (by decide) (by decide) (by decide) (by decide)).trans e103)
            have y105 : M31 598 90 = v101 := e104
            obtain ⟨v106, e106⟩ : ∃ z, M31 598 100 = z := ⟨_, rfl⟩
            have b106 : 0 ≤ v106 ∧ v106 ≤ 13 := by rw [← e106]; exact hI_M31 598 100 (by decide)
            have y107 : M31 598 100 = v106 := e106
            obtain ⟨v108, e108⟩ : ∃ z, M 598 107 = z := ⟨_, rfl⟩
            have b108 : 0 ≤ v108 ∧ v108 ≤ 16 := by rw [← e108]; exact hI_M 598 107 (by decide)
            have e109 : M5 598 107 = v108 := ((w5_51 107 (by decide) (by decide) (by decide)).trans e108)
            have e110 : M19 598 107 = v108 := ((w19_51 107 (by decide) (by decide) (by decide) (by decide) (by decide) (by decide) (by decide)).trans e109)
            have e111 : M31 598 107 = v108 := ((w31_51 107 (by decide) (by decide) (by decide) (by decide) (by decide) (by decide) (by decide) (by decide) (by decide) (by decide)).trans e110)
            have y112 : M31 598 107 = v108 := e111
            obtain ⟨v113, e113⟩ : ∃ z, M31 598 75 = z := ⟨_, rfl⟩
            have b113 : 0 ≤ v113 ∧ v113 ≤ 1600 := by rw [← e113]; exact hI_M31 598 75 (by decide)
            have y114 : M31 598 75 = v113 := e113
            have y115 : M31 598 80 = v89 := e89
            obtain ⟨v116, e116⟩ : ∃ z, M31 598 81 = z := ⟨_, rfl⟩
            have b116 : (-1) ≤ v116 ∧ v116 ≤ 1600 := by rw [← e116]; exact hI_M31 598 81 (by decide)
            have y117 : M31 598 81 = v116 := e116
            have y118 : M31 598 89 = v16 := e99
            have y119 : M31 598 100 = v106 := e106
            exact jr.vreturn rfl rfl (q _ hI_M31 hH_M31 hS_M31  (Or.inl ⟨by omega, by omega⟩) (by omega) (by omega) (Or.inl (by omega)) (CP.f (CP.f (CP.f (CP.rfl _) (fun i => w5_50 659 i (by decide)) (w5_51 90 (by decide) (by decide) (by decide))) (fun i => w19_50 659 i (by decide)) (w19_51 90 (by decide) (by decide) (by decide) (by decide) (by decide) (by decide) (by decide))) (fun i => w31_50 659 i (by decide)) (w31_51 90 (by decide) (by decide) (by decide) (by decide) (by decide) (by decide) (by decide) (by decide) (by decide) (by decide))) (by omega) hT31 (fun _ => zr.fe zfz (by omega) (by omega)) (fun q => by exfalso; omega) (fun q => by omega) (fun a i f598 f659 f660 => ((w31_50 a i f598).trans ((w19_50 a i f598).trans ((w5_50 a i f598).trans rfl)))) (fun i g73 g74 g75 g76 g77 g78 g79 g80 g81 g89 g90 g100 => ((w31_51 i g73 g74 g75 g76 g77 g78 g79 g80 g81 g100).trans ((w19_51 i g73 g74 g75 g76 g77 g78 g79).trans ((w5_51 i g80 g81 g89).trans rfl)))))
      · have x31_72 := w31_51 72 (by decide) (by decide) (by decide) (by decide) (by decide) (by decide) (by decide) (by decide) (by decide) (by decide)
        have x31_89 := w31_51 89 (by decide) (by decide) (by decide) (by decide) (by decide) (by decide) (by decide) (by decide) (by decide) (by decide)
        have zfz : zr f N xs (zft (M31 598 80) (M31 598 81)) := zr.rfz (zr.has0 hz4 qs31) q031 q131
        refine jr.aload_n rfl rfl ?_
        obtain ⟨v120, e120⟩ : ∃ z, M31 598 80 = z := ⟨_, rfl⟩
        have b120 : 0 ≤ v120 ∧ v120 ≤ 7 := by rw [← e120]; exact hI_M31 598 80 (by decide)
        refine jr_v rfl rfl (Or.inl rfl) rfl rfl (by decide) rfl ⟨rfl, Nat.le_of_ble_eq_true rfl, Nat.le_of_ble_eq_true rfl⟩ rfl (jc.deep (c_good hI_M31  (fun t22_0 => ?_) (fun f22_0 => ?_)) (by decide))
        · exfalso
          omega
        · refine jr.if_eq rfl rfl (by omega) (fun _ => ?_) (fun h => absurd (by decide) h)
          refine jr.aload_n rfl rfl ?_
          refine jr_v rfl rfl (Or.inl rfl) rfl rfl (by decide) rfl ⟨rfl, Nat.le_of_ble_eq_true rfl, Nat.le_of_ble_eq_true rfl⟩ rfl (jc.deep (c_good hI_M31  (fun t44_0 => ?_) (fun f44_0 => ?_)) (by decide))
          · exfalso
            omega
          · refine jr.if_ne rfl rfl (by omega) (fun h => absurd h (by decide)) (fun _ => ?_)
            have e121 : M31 598 72 = v12 := ((w31_51 72 (by decide) (by decide) (by decide) (by decide) (by decide) (by decide) (by decide) (by decide) (by decide) (by decide)).trans e24)
            have y122 : M31 598 72 = v12 := e121
            obtain ⟨v123, e123⟩ : ∃ z, M31 598 73 = z := ⟨_, rfl⟩
            have b123 : 0 ≤ v123 ∧ v123 ≤ 1600 := by rw [← e123]; exact hI_M31 598 73 (by decide)
            have y124 : M31 598 73 = v123 := e123
            obtain ⟨v125, e125⟩ : ∃ z, M31 598 74 = z := ⟨_, rfl⟩
            have b125 : 0 ≤ v125 ∧ v125 ≤ 4 := by rw [← e125]; exact hI_M31 598 74 (by decide)
            have y126 : M31 598 74 = v125 := e125
            obtain ⟨v127, e127⟩ : ∃ z, M31 598 79 = z := ⟨_, rfl⟩
            have b127 : 0 ≤ v127 ∧ v127 ≤ 255 := by rw [← e127]; exact hI_M31 598 79 (by decide)
            have y128 : M31 598 79 = v127 := e127
            have y129 : M31 598 80 = v120 := e120
            have e130 : M31 598 89 = v16 := ((w31_51 89 (by decide) (by decide) (by decide) (by decide) (by decide) (by decide) (by decide) (by decide) (by decide) (by decide)).trans e29)
            have y131 : M31 598 89 = v16 := e130
            obtain ⟨v132, e132⟩ : ∃ z, M 598 90 = z := ⟨_, rfl⟩
            have b132 : 0 ≤ v132 ∧ v132 ≤ 2200 := by rw [← e132]; exact hI_M 598 90 (by decide)
            have e133 : M5 598 90 = v132 := ((w5_51 90 (by decide) (by decide) (by decide)).trans e132)
            have e134 : M19 598 90 = v132 := ((w19_51 90 (by decide) (by decide) (by decide) (by decide) (by decide) (by decide) (by decide)).trans e133)
            have e135 : M31 598 90 = v132 := ((w31_51 90 (by decide) (by decide) (by decide) (by decide) (by decide) (by decide) (by decide) (by decide) (by decide) (by decide)).trans e134)
            have y136 : M31 598 90 = v132 := e135
            obtain ⟨v137, e137⟩ : ∃ z, M31 598 100 = z := ⟨_, rfl⟩
            have b137 : 0 ≤ v137 ∧ v137 ≤ 13 := by rw [← e137]; exact hI_M31 598 100 (by decide)
            have y138 : M31 598 100 = v137 := e137
            obtain ⟨v139, e139⟩ : ∃ z, M 598 107 = z := ⟨_, rfl⟩
            have b139 : 0 ≤ v139 ∧ v139 ≤ 16 := by rw [← e139]; exact hI_M 598 107 (by decide)
            have e140 : M5 598 107 = v139 := ((w5_51 107 (by decide) (by decide) (by decide)).trans e139)
            have e141 : M19 598 107 = v139 := ((w19_51 107 (by decide) (by decide) (by decide) (by decide) (by decide) (by decide) (by decide)).trans e140)
            have e142 : M31 598 107 = v139 := ((w31_51 107 (by decide) (by decide) (by decide) (by decide) (by decide) (by decide) (by decide) (by decide) (by decide) (by decide)).trans e141)
            have y143 : M31 598 107 = v139 := e142
            obtain ⟨v144, e144⟩ : ∃ z, M31 598 75 = z := ⟨_, rfl⟩
            have b144 : 0 ≤ v144 ∧ v144 ≤ 1600 := by rw [← e144]; exact hI_M31 598 75 (by decide)
            have y145 : M31 598 75 = v144 := e144
            have y146 : M31 598 80 = v120 := e120
            obtain ⟨v147, e147⟩ : ∃ z, M31 598 81 = z := ⟨_, rfl⟩
            have b147 : (-1) ≤ v147 ∧ v147 ≤ 1600 := by rw [← e147]; exact hI_M31 598 81 (by decide)
            have y148 : M31 598 81 = v147 := e147
            have y149 : M31 598 89 = v16 := e130
            have y150 : M31 598 100 = v137 := e137
            exact jr.vreturn rfl rfl (q _ hI_M31 hH_M31 hS_M31  (Or.inl ⟨by omega, by omega⟩) (by omega) (by omega) (Or.inl (by omega)) (CP.f (CP.f (CP.f (CP.rfl _) (fun i => w5_50 659 i (by decide)) (w5_51 90 (by decide) (by decide) (by decide))) (fun i => w19_50 659 i (by decide)) (w19_51 90 (by decide) (by decide) (by decide) (by decide) (by decide) (by decide) (by decide))) (fun i => w31_50 659 i (by decide)) (w31_51 90 (by decide) (by decide) (by decide) (by decide) (by decide) (by decide) (by decide) (by decide) (by decide) (by decide))) (by omega) hT31 (fun _ => zr.fe zfz (by omega) (by omega)) (fun q => by exfalso; omega) (fun q => by omega) (fun a i f598 f659 f660 => ((w31_50 a i f598).trans ((w19_50 a i f598).trans ((w5_50 a i f598).trans rfl)))) (fun i g73 g74 g75 g76 g77 g78 g79 g80 g81 g89 g90 g100 => ((w31_51 i g73 g74 g75 g76 g77 g78 g79 g80 g81 g100).trans ((w19_51 i g73 g74 g75 g76 g77 g78 g79).trans ((w5_51 i g80 g81 g89).trans rfl)))))
    · exfalso
      omega
  · have tk5 : TK M5 = TK M := TK.fr (w5_51 73 (by decide) (by decide) (by decide)) (w5_51 74 (by decide) (by decide) (by decide))
    have x5_72 := w5_51 72 (by decide) (by decide) (by decide)
    have x5_73 := w5_51 73 (by decide) (by decide) (by decide)
    have x5_74 := w5_51 74 (by decide) (by decide) (by decide)
    have x5_75 := w5_51 75 (by decide) (by decide) (by decide)
    have x5_76 := w5_51 76 (by decide) (by decide) (by decide)
    have x5_78 := w5_51 78 (by decide) (by decide) (by decide)
    have x5_79 := w5_51 79 (by decide) (by decide) (by decide)
    have x5_100 := w5_51 100 (by decide) (by decide) (by decide)
    have zfz : zr f N xs (zft (M5 598 80) (M5 598 81)) := zr.fe (zr.wk hz w0t.1 (by omega) (by omega)) (by omega) (by omega)
    refine jr.aload_n rfl rfl ?_
    obtain ⟨v151, e151⟩ : ∃ z, M5 598 80 = z := ⟨_, rfl⟩
    have b151 : 0 ≤ v151 ∧ v151 ≤ 7 := by rw [← e151]; exact hI_M5 598 80 (by decide)
    refine jr_v rfl rfl (Or.inl rfl) rfl rfl (by decide) rfl ⟨rfl, Nat.le_of_ble_eq_true rfl, Nat.le_of_ble_eq_true rfl⟩ rfl (jc.deep (c_good hI_M5  (fun t5_0 => ?_) (fun f5_0 => ?_)) (by decide))
    · exfalso
      omega
    · refine jr.if_eq rfl rfl (by omega) (fun _ => ?_) (fun h => absurd (by decide) h)
      refine jr.aload_n rfl rfl ?_
      refine jr.bipush rfl (by decide) ?_
      have e152 : M5 598 73 = v6 := ((w5_51 73 (by decide) (by decide) (by decide)).trans e6)
      obtain ⟨v153, e153⟩ : ∃ z, M 598 72 = z := ⟨_, rfl⟩
      have b153 : 0 ≤ v153 ∧ v153 ≤ 1600 := by rw [← e153]; exact hI_M 598 72 (by decide)
      have e154 : M5 598 72 = v153 := ((w5_51 72 (by decide) (by decide) (by decide)).trans e153)
      obtain ⟨v155, e155⟩ : ∃ z, M5 598 89 = z := ⟨_, rfl⟩
      have b155 : 0 ≤ v155 ∧ v155 ≤ 301 := by rw [← e155]; exact hI_M5 598 89 (by decide)
      have e156 : M5 598 100 = v3 := ((w5_51 100 (by decide) (by decide) (by decide)).trans e3)
      obtain ⟨v157, e157⟩ : ∃ z, M5 598 81 = z := ⟨_, rfl⟩
      have b157 : (-1) ≤ v157 ∧ v157 ≤ 1600 := by rw [← e157]; exact hI_M5 598 81 (by decide)
      refine jr_v rfl rfl (Or.inl rfl) rfl rfl (by decide) rfl ⟨rfl, Nat.le_of_ble_eq_true rfl, Nat.le_of_ble_eq_true rfl⟩ rfl (jc.deep (d_wantDeeper_z (f := f) (N := N) hI_M5 hH_M5 hS_M5 (by omega) (by rw [e152, e154]; omega) (TXr.fr hT (w5_51 72 (by decide) (by decide) (by decide)) (fun i => w5_50 651 i (by decide)) (fun i => w5_50 649 i (by decide)) (fun i => w5_50 650 i (by decide))) (by rw [e151]; omega) (fun M158 hI_M158 hH_M158 hS_M158 qa158 qb158 qt158 q0158 q1158 hT158 w158_50 w158_51 => ?_)) (by decide))
      have x158_72 := w158_51 72 (by decide) (by decide) (by decide) (by decide) (by decide) (by decide) (by decide) (by decide) (by decide) (by decide)
      have x158_89 := w158_51 89 (by decide) (by decide) (by decide) (by decide) (by decide) (by decide) (by decide) (by decide) (by decide) (by decide)
      have zfz : zr f N xs (zft (M158 598 80) (M158 598 81)) := zr.fe zfz (by omega) (by omega)
      refine jr.aload_n rfl rfl ?_
      obtain ⟨v159, e159⟩ : ∃ z, M158 598 80 = z := ⟨_, rfl⟩
      have b159 : 0 ≤ v159 ∧ v159 ≤ 7 := by rw [← e159]; exact hI_M158 598 80 (by decide)
      refine jr_v rfl rfl (Or.inl rfl) rfl rfl (by decide) rfl ⟨rfl, Nat.le_of_ble_eq_true rfl, Nat.le_of_ble_eq_true rfl⟩ rfl (jc.deep (c_good hI_M158  (fun t22_0 => ?_) (fun f22_0 => ?_)) (by decide))
      · exfalso
        omega
      · refine jr.if_eq rfl rfl (by omega) (fun _ => ?_) (fun h => absurd (by decide) h)
        refine jr.aload_n rfl rfl ?_
        refine jr_v rfl rfl (Or.inl rfl) rfl rfl (by decide) rfl ⟨rfl, Nat.le_of_ble_eq_true rfl, Nat.le_of_ble_eq_true rfl⟩ rfl (jc.deep (c_good hI_M158  (fun t44_0 => ?_) (fun f44_0 => ?_)) (by decide))
        · exfalso
          omega
        · refine jr.if_ne rfl rfl (by omega) (fun h => absurd h (by decide)) (fun _ => ?_)
          have e160 : M158 598 72 = v153 := ((w158_51 72 (by decide) (by decide) (by decide) (by decide) (by decide) (by decide) (by decide) (by decide) (by decide) (by decide)).trans e154)
          have y161 : M158 598 72 = v153 := e160
          obtain ⟨v162, e162⟩ : ∃ z, M158 598 73 = z := ⟨_, rfl⟩
          have b162 : 0 ≤ v162 ∧ v162 ≤ 1600 := by rw [← e162]; exact hI_M158 598 73 (by decide)
          have y163 : M158 598 73 = v162 := e162
          obtain ⟨v164, e164⟩ : ∃ z, M158 598 74 = z := ⟨_, rfl⟩
          have b164 : 0 ≤ v164 ∧ v164 ≤ 4 := by rw [← e164]; exact hI_M158 598 74 (by decide)
          have y165 : M158 598 74 = v164 := e164
          obtain ⟨v166, e166⟩ : ∃ z, M158 598 79 = z := ⟨_, rfl⟩
          have b166 : 0 ≤ v166 ∧ v166 ≤ 255 := by rw [← e166]; exact hI_M158 598 79 (by decide)
          have y167 : M158 598 79 = v166 := e166
          have y168 : M158 598 80 = v159 := e159
          have e169 : M158 598 89 = v155 := ((w158_51 89 (by decide) (by decide) (by decide) (by decide) (by decide) (by decide) (by decide) (by decide) (by decide) (by decide)).trans e155)
          have y170 : M158 598 89 = v155 := e169
          obtain ⟨v171, e171⟩ : ∃ z, M 598 90 = z := ⟨_, rfl⟩
          have b171 : 0 ≤ v171 ∧ v171 ≤ 2200 := by rw [← e171]; exact hI_M 598 90 (by decide)
          have e172 : M5 598 90 = v171 := ((w5_51 90 (by decide) (by decide) (by decide)).trans e171)
          have e173 : M158 598 90 = v171 := ((w158_51 90 (by decide) (by decide) (by decide) (by decide) (by decide) (by decide) (by decide) (by decide) (by decide) (by decide)).trans e172)
          have y174 : M158 598 90 = v171 := e173
          obtain ⟨v175, e175⟩ : ∃ z, M158 598 100 = z := ⟨_, rfl⟩
          have b175 : 0 ≤ v175 ∧ v175 ≤ 13 := by rw [← e175]; exact hI_M158 598 100 (by decide)
          have y176 : M158 598 100 = v175 := e175
          obtain ⟨v177, e177⟩ : ∃ z, M 598 107 = z := ⟨_, rfl⟩
          have b177 : 0 ≤ v177 ∧ v177 ≤ 16 := by rw [← e177]; exact hI_M 598 107 (by decide)
          have e178 : M5 598 107 = v177 := ((w5_51 107 (by decide) (by decide) (by decide)).trans e177)
          have e179 : M158 598 107 = v177 := ((w158_51 107 (by decide) (by decide) (by decide) (by decide) (by decide) (by decide) (by decide) (by decide) (by decide) (by decide)).trans e178)
          have y180 : M158 598 107 = v177 := e179
          obtain ⟨v181, e181⟩ : ∃ z, M158 598 75 = z := ⟨_, rfl⟩
          have b181 : 0 ≤ v181 ∧ v181 ≤ 1600 := by rw [← e181]; exact hI_M158 598 75 (by decide)
          have y182 : M158 598 75 = v181 := e181
          have y183 : M158 598 80 = v159 := e159
          obtain ⟨v184, e184⟩ : ∃ z, M158 598 81 = z := ⟨_, rfl⟩
          have b184 : (-1) ≤ v184 ∧ v184 ≤ 1600 := by rw [← e184]; exact hI_M158 598 81 (by decide)
          have y185 : M158 598 81 = v184 := e184
          have y186 : M158 598 89 = v155 := e169
          have y187 : M158 598 100 = v175 := e175
          exact jr.vreturn rfl rfl (q _ hI_M158 hH_M158 hS_M158  (Or.inl ⟨by omega, by omega⟩) (by omega) (by omega) (Or.inl (by omega)) (CP.f (CP.f (CP.rfl _) (fun i => w5_50 659 i (by decide)) (w5_51 90 (by decide) (by decide) (by decide))) (fun i => w158_50 659 i (by decide)) (w158_51 90 (by decide) (by decide) (by decide) (by decide) (by decide) (by decide) (by decide) (by decide) (by decide) (by decide))) (by omega) hT158 (fun _ => zr.fe zfz (by omega) (by omega)) (fun q => by exfalso; omega) (fun q => by omega) (fun a i f598 f659 f660 => ((w158_50 a i f598).trans ((w5_50 a i f598).trans rfl))) (fun i g73 g74 g75 g76 g77 g78 g79 g80 g81 g89 g90 g100 => ((w158_51 i g73 g74 g75 g76 g77 g78 g79 g80 g81 g100).trans ((w5_51 i g80 g81 g89).trans rfl))))
