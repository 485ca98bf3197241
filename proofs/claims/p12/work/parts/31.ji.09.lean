section
section JI
variable {A : Nat → Option (Nat × (Nat → Int32))} {D : Nat} {m : ix_M} {pc : Nat} {ls ls' : ix_L} {st : List Value} {M : jm} {Q : Option Value → jm → Prop}
theorem jr.iald {a n : Nat} {i x : Int} (hi : m.2.2.2.2.2.2 pc = some .iaload) (ha : a < xNc) (hs : xsh a = (0, n)) (hn : n ≤ 2000000) (h0 : 0 ≤ i) (h1 : i < (n : Nat)) (hx : M a i = x) (k : jr A D m (pc + 1) ls (.int (Int32.ofInt x) :: st) M Q) : jr A D m pc ls (.int (Int32.ofInt i) :: .ref a :: st) M Q := jr_sem hi (fun f => fxk_iaload (by
  unfold fx_iaload
  obtain ⟨q1, q2⟩ := jin h0 h1 hn
  simp only [jarr0 ha hs]
  rw [if_neg q1, q2, Int.toNat_of_nonneg h0, hx])) k
theorem jr.lald {a n : Nat} {i x : Int} (hi : m.2.2.2.2.2.2 pc = some .laload) (ha : a < xNc) (hs : xsh a = (1, n)) (hn : n ≤ 2000000) (h0 : 0 ≤ i) (h1 : i < (n : Nat)) (hx : M a i = x) (k : jr A D m (pc + 1) ls (.long (Int64.ofInt x) :: st) M Q) : jr A D m pc ls (.int (Int32.ofInt i) :: .ref a :: st) M Q := jr_sem hi (fun f => fxk_laload (by
  unfold fx_laload
  obtain ⟨q1, q2⟩ := jin h0 h1 hn
  simp only [jarr1 ha hs]
  rw [if_neg q1, q2, Int.toNat_of_nonneg h0, hx])) k
theorem jr.zald {a n : Nat} {i x : Int} (hi : m.2.2.2.2.2.2 pc = some .baload) (ha : a < xNc) (hs : xsh a = (2, n)) (hn : n ≤ 2000000) (h0 : 0 ≤ i) (h1 : i < (n : Nat)) (hx : M a i = x) (k : jr A D m (pc + 1) ls (.int (Int32.ofInt x) :: st) M Q) : jr A D m pc ls (.int (Int32.ofInt i) :: .ref a :: st) M Q := jr_sem hi (fun f => fxk_baload (by
  unfold fx_baload
  obtain ⟨q1, q2⟩ := jin h0 h1 hn
  simp only [jarr2 ha hs]
  rw [if_neg q1, q2, Int.toNat_of_nonneg h0, hx])) k
theorem jr.iast {a n : Nat} {i x : Int} (hi : m.2.2.2.2.2.2 pc = some .iastore) (ha : a < xNc) (hs : xsh a = (0, n)) (hn : n ≤ 2000000) (h0 : 0 ≤ i) (h1 : i < (n : Nat)) (k : jr A D m (pc + 1) ls st (ju M a i x) Q) : jr A D m pc ls (.int (Int32.ofInt x) :: .int (Int32.ofInt i) :: .ref a :: st) M Q := jr_sem hi (fun f => fxk_iastore (by
  unfold fx_iastore
  obtain ⟨q1, q2⟩ := jin h0 h1 hn
  simp only [jarr0 ha hs]
  rw [if_neg q1, q2]
  rw [jH_put M a i x _ (by rw [hs, ju_row, jupd (M a) h0 x]; rfl)])) k
theorem jr.last {a n : Nat} {i x : Int} (hi : m.2.2.2.2.2.2 pc = some .lastore) (ha : a < xNc) (hs : xsh a = (1, n)) (hn : n ≤ 2000000) (h0 : 0 ≤ i) (h1 : i < (n : Nat)) (k : jr A D m (pc + 1) ls st (ju M a i x) Q) : jr A D m pc ls (.long (Int64.ofInt x) :: .int (Int32.ofInt i) :: .ref a :: st) M Q := jr_sem hi (fun f => fxk_lastore (by
  unfold fx_lastore
  obtain ⟨q1, q2⟩ := jin h0 h1 hn
  simp only [jarr1 ha hs]
  rw [if_neg q1, q2]
  rw [jH_put M a i x _ (by rw [hs, ju_row, jupdL (M a) h0 x]; rfl)])) k
theorem jr.aald {a t n c : Nat} {i : Int} (hi : m.2.2.2.2.2.2 pc = some .aaload) (ha : a < xNc) (hs : xsh a = (t, n)) (h3 : 3 ≤ t) (h9 : t < 100) (he : (ix_tE (xT A) t).isSome = true) (hn : n ≤ 2000000) (h0 : 0 ≤ i) (h1 : i < (n : Nat)) (hx : xel a i.toNat = some c) (k : jr A D m (pc + 1) ls (.ref c :: st) M Q) : jr A D m pc ls (.int (Int32.ofInt i) :: .ref a :: st) M Q := jr_sem hi (fun f => fxk_aaload (by
  unfold fx_aaload
  obtain ⟨q1, q2⟩ := jin h0 h1 hn
  simp only [jarrq ha hs h3 h9]
  rw [if_pos ⟨he, q1⟩, q2, hx]
  rfl)) k
theorem jr.zast {a n : Nat} {i x : Int} (hi : m.2.2.2.2.2.2 pc = some .bastore) (ha : a < xNc) (hs : xsh a = (2, n)) (hn : n ≤ 2000000) (h0 : 0 ≤ i) (h1 : i < (n : Nat)) (hb : vp_nar .boolean (Int32.ofInt x) = Int32.ofInt x) (k : jr A D m (pc + 1) ls st (ju M a i x) Q) : jr A D m pc ls (.int (Int32.ofInt x) :: .int (Int32.ofInt i) :: .ref a :: st) M Q := jr_sem hi (fun f => fxk_bastore (by
  unfold fx_bastore
  obtain ⟨q1, q2⟩ := jin h0 h1 hn
  simp only [jarr2 ha hs]
  rw [if_neg q1, q2, hb]
  rw [jH_put M a i x _ (by rw [hs, ju_row, jupd (M a) h0 x]; rfl)])) k
theorem jr.ireturn {ty : FieldType} {x : Int} (hi : m.2.2.2.2.2.2 pc = some .ireturn) (hr : m.2.2.2.2.1 = some ty) (hn : narrow ty (.int (Int32.ofInt x)) = .int (Int32.ofInt x)) (q : Q (some (.int (Int32.ofInt x))) M) : jr A D m pc ls [.int (Int32.ofInt x)] M Q := jr_ret hi (by unfold ix_ret; simp only [hr, if_pos hn]) q
end JI
end
