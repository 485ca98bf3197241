section
section JI
variable {A : Nat → Option (Nat × (Nat → Int32))} {D : Nat} {m : ix_M} {pc : Nat} {ls ls' : ix_L} {st : List Value} {M : jm} {Q : Option Value → jm → Prop}
theorem jr.lreturn {x : Int} (hi : m.2.2.2.2.2.2 pc = some .lreturn) (hr : m.2.2.2.2.1 = some .long) (q : Q (some (.long (Int64.ofInt x))) M) : jr A D m pc ls [.long (Int64.ofInt x)] M Q := jr_ret hi (by unfold ix_ret; simp only [if_pos hr]) q
theorem jr.vreturn (hi : m.2.2.2.2.2.2 pc = some .return_) (hr : m.2.2.2.2.1 = none) (q : Q none M) : jr A D m pc ls [] M Q := jr_ret hi (by unfold ix_ret; simp only [hr]) q
end JI
end
section
/-! ===== switches ===== -/
section JS
variable {A : Nat → Option (Nat × (Nat → Int32))} {D : Nat} {m : ix_M} {pc t : Nat} {ls : ix_L} {st : List Value} {M : jm} {Q : Option Value → jm → Prop}
theorem jr_br {i : Instr} {v : Value} (hi : m.2.2.2.2.2.2 pc = some i) (hk : (∃ a b c d, i = .tableswitch a b c d) ∨ ∃ a b, i = .lookupswitch a b) (hb : ix_br i pc (v :: st) = some (t, st)) (k : jr A D m t ls st M Q) : jr A D m pc ls (v :: st) M Q := by
  refine jr_sem hi (fun f => ?_) k
  rcases hk with ⟨a, b, c, d, rfl⟩ | ⟨a, b, rfl⟩
  · simp only [ix_sem, ix_ret, ix_alu, ix_loc, ix_hp, hb]
  · simp only [ix_sem, ix_ret, ix_alu, ix_loc, ix_hp, hb]
theorem jr.tsw {dflt lo hi_ : Int} {offs : Array Int} {v : Value} (hi : m.2.2.2.2.2.2 pc = some (.tableswitch dflt lo hi_ offs)) (hb : ix_br (.tableswitch dflt lo hi_ offs) pc (v :: st) = some (t, st)) (k : jr A D m t ls st M Q) : jr A D m pc ls (v :: st) M Q := jr_br hi (Or.inl ⟨_, _, _, _, rfl⟩) hb k
theorem jr.tsw_d {dflt lo hi_ x : Int} {offs : Array Int} (hi : m.2.2.2.2.2.2 pc = some (.tableswitch dflt lo hi_ offs)) (hx : -2147483648 ≤ x ∧ x ≤ 2147483647) (h : x < lo ∨ hi_ < x) (ht : ix_tg pc dflt = some t) (k : jr A D m t ls st M Q) : jr A D m pc ls (.int (Int32.ofInt x) :: st) M Q := by
  refine jr.tsw hi ?_ k
  have e : (Int32.ofInt x).toInt = x := Int32.toInt_ofInt_of_le (by omega) (by omega)
  simp only [ix_br, e, if_pos h, ht]
theorem jr.lsw {dflt : Int} {ps : Array (Int × Int)} {v : Value} (hi : m.2.2.2.2.2.2 pc = some (.lookupswitch dflt ps)) (hb : ix_br (.lookupswitch dflt ps) pc (v :: st) = some (t, st)) (k : jr A D m t ls st M Q) : jr A D m pc ls (v :: st) M Q := jr_br hi (Or.inr ⟨_, _, rfl⟩) hb k
theorem j_off_no (dflt x : Int) : ∀ (ps : List (Int × Int)), (∀ q ∈ ps, q.1 ≠ x) → Op.lookupswitch.offset ps dflt x = dflt
  | [], _ => by simp [Op.lookupswitch.offset]
  | q :: r, h => by
    have h1 := h q List.mem_cons_self
    have h2 := j_off_no dflt x r (fun p hp => h p (List.mem_cons_of_mem _ hp))
    simp only [Op.lookupswitch.offset] at h2 ⊢
    simp [List.find?_cons, h1, h2]
    try exact h2
theorem jr.lsw_d {dflt x : Int} {ps : Array (Int × Int)} (hi : m.2.2.2.2.2.2 pc = some (.lookupswitch dflt ps)) (hx : -2147483648 ≤ x ∧ x ≤ 2147483647) (hs : (ps.toList.zip (ps.toList.drop 1)).all (fun (a, next) => a.1 < next.1) = true) (h : ∀ q ∈ ps.toList, q.1 ≠ x) (ht : ix_tg pc dflt = some t) (k : jr A D m t ls st M Q) : jr A D m pc ls (.int (Int32.ofInt x) :: st) M Q := by
  refine jr.lsw hi ?_ k
  have e : (Int32.ofInt x).toInt = x := Int32.toInt_ofInt_of_le (by omega) (by omega)
  simp only [ix_br, e, if_pos hs, j_off_no dflt x _ h, ht]
end JS
section JS2
variable {A : Nat → Option (Nat × (Nat → Int32))} {D : Nat} {m : ix_M} {pc t : Nat} {ls : ix_L} {st : List Value} {M : jm} {Q : Option Value → jm → Prop}
theorem jr.tsw_k {dflt lo hi_ x : Int} {offs : Array Int} (c : Int) (hi : m.2.2.2.2.2.2 pc = some (.tableswitch dflt lo hi_ offs)) (h : x = c) (hb : ix_br (.tableswitch dflt lo hi_ offs) pc (.int (Int32.ofInt c) :: st) = some (t, st)) (k : jr A D m t ls st M Q) : jr A D m pc ls (.int (Int32.ofInt x) :: st) M Q := by
  subst h
  exact jr.tsw hi hb k
theorem jr.lsw_k {dflt x : Int} {ps : Array (Int × Int)} (c : Int) (hi : m.2.2.2.2.2.2 pc = some (.lookupswitch dflt ps)) (h : x = c) (hb : ix_br (.lookupswitch dflt ps) pc (.int (Int32.ofInt c) :: st) = some (t, st)) (k : jr A D m t ls st M Q) : jr A D m pc ls (.int (Int32.ofInt x) :: st) M Q := by
  subst h
  exact jr.lsw hi hb k
end JS2
end
section
/-! ===== bits: what the payloads of &, |, shifts are ===== -/
theorem jb_tn (x : Int) : (Int32.ofInt x).toBitVec.toNat = (x % 4294967296).toNat := by
  show (BitVec.ofInt 32 x).toNat = _
  rw [BitVec.toNat_ofInt]
  rfl
theorem jbl_tn (x : Int) : (Int64.ofInt x).toBitVec.toNat = (x % 18446744073709551616).toNat := by
  show (BitVec.ofInt 64 x).toNat = _
  rw [BitVec.toNat_ofInt]
  rfl
end
