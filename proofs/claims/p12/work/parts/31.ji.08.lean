section
section JI
variable {A : Nat → Option (Nat × (Nat → Int32))} {D : Nat} {m : ix_M} {pc : Nat} {ls ls' : ix_L} {st : List Value} {M : jm} {Q : Option Value → jm → Prop}
theorem jr.lcmp_ge {t : Nat} {off x y : Int} (hi : m.2.2.2.2.2.2 pc = some .lcmp) (hi2 : m.2.2.2.2.2.2 (pc + 1) = some (.ifCond .ge off)) (ht : ix_tg (pc + 1) off = some t) (hx : -9223372036854775808 ≤ x ∧ x ≤ 9223372036854775807) (hy : -9223372036854775808 ≤ y ∧ y ≤ 9223372036854775807) (k1 : y ≤ x → jr A D m t ls st M Q) (k2 : ¬ (y ≤ x) → jr A D m (pc + 4) ls st M Q) : jr A D m pc ls (.long (Int64.ofInt y) :: .long (Int64.ofInt x) :: st) M Q := by
  refine jr.lcmp hi ?_
  have hr := jl_cmp_r hx hy
  exact jr.if_ge hi2 ht (by omega) (fun h => k1 (by omega)) (fun h => k2 (by omega))
theorem jr.lcmp_gt {t : Nat} {off x y : Int} (hi : m.2.2.2.2.2.2 pc = some .lcmp) (hi2 : m.2.2.2.2.2.2 (pc + 1) = some (.ifCond .gt off)) (ht : ix_tg (pc + 1) off = some t) (hx : -9223372036854775808 ≤ x ∧ x ≤ 9223372036854775807) (hy : -9223372036854775808 ≤ y ∧ y ≤ 9223372036854775807) (k1 : y < x → jr A D m t ls st M Q) (k2 : ¬ (y < x) → jr A D m (pc + 4) ls st M Q) : jr A D m pc ls (.long (Int64.ofInt y) :: .long (Int64.ofInt x) :: st) M Q := by
  refine jr.lcmp hi ?_
  have hr := jl_cmp_r hx hy
  exact jr.if_gt hi2 ht (by omega) (fun h => k1 (by omega)) (fun h => k2 (by omega))
theorem jr.lcmp_le {t : Nat} {off x y : Int} (hi : m.2.2.2.2.2.2 pc = some .lcmp) (hi2 : m.2.2.2.2.2.2 (pc + 1) = some (.ifCond .le off)) (ht : ix_tg (pc + 1) off = some t) (hx : -9223372036854775808 ≤ x ∧ x ≤ 9223372036854775807) (hy : -9223372036854775808 ≤ y ∧ y ≤ 9223372036854775807) (k1 : x ≤ y → jr A D m t ls st M Q) (k2 : ¬ (x ≤ y) → jr A D m (pc + 4) ls st M Q) : jr A D m pc ls (.long (Int64.ofInt y) :: .long (Int64.ofInt x) :: st) M Q := by
  refine jr.lcmp hi ?_
  have hr := jl_cmp_r hx hy
  exact jr.if_le hi2 ht (by omega) (fun h => k1 (by omega)) (fun h => k2 (by omega))
theorem jr.getf {idx a c n j : Nat} {i x : Int} {ty : FieldType} {v : Value} (hi : m.2.2.2.2.2.2 pc = some (.getfield idx)) (hf : ix_tF (xT A) m.1 idx = some (c, j)) (ha : a < xNc) (hs : xsh a = (100 + c, n)) (hj : j < n) (hij : ((j : Nat) : Int) = i) (hty : ((xT_D c).2 j).1 = ty) (hx : M a i = x) (hv : jval a j ty x = v) (k : jr A D m (pc + 3) ls (v :: st) M Q) : jr A D m pc ls (.ref a :: st) M Q := jr_sem hi (fun f => fxk_getfield (by
  unfold fx_getfield
  simp only [hf, jobj ha hs, if_true, List.getElem?_map, List.getElem?_range hj, Option.map_some, hij, hx, hty, hv])) k
theorem jr.putf {idx a c n j : Nat} {i x : Int} {ty : FieldType} {v : Value} (hi : m.2.2.2.2.2.2 pc = some (.putfield idx)) (hf : ix_tF (xT A) m.1 idx = some (c, j)) (ha : a < xNc) (hs : xsh a = (100 + c, n)) (hj : j < n) (hij : ((j : Nat) : Int) = i) (hty : ((xT_D c).2 j) = (ty, false)) (hv : jval a j ty x = v) (hn : narrow ty v = v) (hfi : fits ty v = true) (k : jr A D m (pc + 3) ls st (ju M a i x) Q) : jr A D m pc ls (v :: .ref a :: st) M Q := jr_sem hi (fun f => fxk_putfield (by
  unfold fx_putfield
  have e1 : (ix_tD (xT A) c).2 j = (ty, false) := hty
  simp only [hf, jobj ha hs, e1]
  rw [if_pos ⟨trivial, by simp [hj], hn, hfi, Or.inl trivial⟩]
  rw [jH_put M a i x _ (by
    rw [hs, ju_row]
    have h9 := jcell_obj a c n (fun k => if k = i then x else M a k)
    rw [h9]
    congr 2
    apply List.ext_getElem?
    intro q
    by_cases hq : q = j
    · subst hq
      rw [List.getElem?_set_self (by simp [hj]), List.getElem?_map, List.getElem?_range hj]
      simp only [Option.map_some, hij, if_true, hty, hv]
    · rw [List.getElem?_set_ne (fun z => hq z.symm), List.getElem?_map, List.getElem?_map]
      by_cases hqn : q < n
      · rw [List.getElem?_range hqn]
        simp only [Option.map_some]
        rw [if_neg (by omega)]
      · rw [List.getElem?_eq_none (by simp; omega)]
        rfl)])) k
end JI
end
