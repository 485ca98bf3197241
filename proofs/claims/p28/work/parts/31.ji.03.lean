section
section JI
variable {A : Nat → Option (Nat × (Nat → Int32))} {D : Nat} {m : ix_M} {pc : Nat} {ls ls' : ix_L} {st : List Value} {M : jm} {Q : Option Value → jm → Prop}
theorem jr.iast {a n : Nat} {i x : Int} (hi : m.2.2.2.2.2.2 pc = some .iastore) (ha : a < xNc) (hs : xsh a = (0, n)) (hn : n ≤ 2000000) (h0 : 0 ≤ i) (h1 : i < (n : Nat)) (k : jr A D m (pc + 1) ls st (ju M a i x) Q) : jr A D m pc ls (.int (Int32.ofInt x) :: .int (Int32.ofInt i) :: .ref a :: st) M Q := jr_sem hi (fun f => fxk_iastore (by
  unfold fx_iastore
  obtain ⟨q1, q2⟩ := jin h0 h1 hn
  simp only [jarr0 ha hs]
  rw [if_neg q1, q2]
  rw [jH_put M a i x _ (by rw [hs, ju_row, jupd (M a) h0 x]; rfl)])) k
theorem jr.last {a n : Nat} {i x : Int} (hi : m.2.2.2.2.2.2 pc = some .lastore) (ha : a < xNc) (hs : xsh a = (1, n)) (hn : n ≤ 2000000) (h0 : 0 ≤ i) (h1 : i < (n : Nat)) (k : jr A D m (pc + 1) ls st (ju M a i x) Q) : jr A D m pc ls (.long (Int64.ofInt x) :: .int (Int32.ofInt i) :: .ref a :: st) M Q := jr_sem hi (fun f => fxk_lastore (by
  unfold fx_lastore
  obtain ⟨q1, q2⟩ := jin h0 h1 hn
  simp only [jarr1 ha hs]
  rw [if_neg q1, q2]
  rw [jH_put M a i x _ (by rw [hs, ju_row, jupdL (M a) h0 x]; rfl)])) k
theorem jr.aald {a t n c : Nat} {i : Int} (hi : m.2.2.2.2.2.2 pc = some .aaload) (ha : a < xNc) (hs : xsh a = (t, n)) (h3 : 3 ≤ t) (h9 : t < 100) (he : (ix_tE (xT A) t).isSome = true) (hn : n ≤ 2000000) (h0 : 0 ≤ i) (h1 : i < (n : Nat)) (hx : xel a i.toNat = some c) (k : jr A D m (pc + 1) ls (.ref c :: st) M Q) : jr A D m pc ls (.int (Int32.ofInt i) :: .ref a :: st) M Q := jr_sem hi (fun f => fxk_aaload (by
  unfold fx_aaload
  obtain ⟨q1, q2⟩ := jin h0 h1 hn
  simp only [jarrq ha hs h3 h9]
  rw [if_pos ⟨he, q1⟩, q2, hx]
  rfl)) k
theorem jr.zast {a n : Nat} {i x : Int} (hi : m.2.2.2.2.2.2 pc = some .bastore) (ha : a < xNc) (hs : xsh a = (2, n)) (hn : n ≤ 2000000) (h0 : 0 ≤ i) (h1 : i < (n : Nat)) (hb : vp_nar .boolean (Int32.ofInt x) = Int32.ofInt x) (k : jr A D m (pc + 1) ls st (ju M a i x) Q) : jr A D m pc ls (.int (Int32.ofInt x) :: .int (Int32.ofInt i) :: .ref a :: st) M Q := jr_sem hi (fun f => fxk_bastore (by
  unfold fx_bastore
  obtain ⟨q1, q2⟩ := jin h0 h1 hn
  simp only [jarr2 ha hs]
  rw [if_neg q1, q2, hb]
  rw [jH_put M a i x _ (by rw [hs, ju_row, jupd (M a) h0 x]; rfl)])) k
theorem jr.ireturn {ty : FieldType} {x : Int} (hi : m.2.2.2.2.2.2 pc = some .ireturn) (hr : m.2.2.2.2.1 = some ty) (hn : narrow ty (.int (Int32.ofInt x)) = .int (Int32.ofInt x)) (q : Q (some (.int (Int32.ofInt x))) M) : jr A D m pc ls [.int (Int32.ofInt x)] M Q := jr_ret hi (by unfold ix_ret; simp only [hr, if_pos hn]) q
theorem jr.lreturn {x : Int} (hi : m.2.2.2.2.2.2 pc = some .lreturn) (hr : m.2.2.2.2.1 = some .long) (q : Q (some (.long (Int64.ofInt x))) M) : jr A D m pc ls [.long (Int64.ofInt x)] M Q := jr_ret hi (by unfold ix_ret; simp only [if_pos hr]) q
theorem jr.vreturn (hi : m.2.2.2.2.2.2 pc = some .return_) (hr : m.2.2.2.2.1 = none) (q : Q none M) : jr A D m pc ls [] M Q := jr_ret hi (by unfold ix_ret; simp only [hr]) q
end JI
end
section
/-! ===== switches ===== -/
section JS
variable {A : Nat → Option (Nat × (Nat → Int32))} {D : Nat} {m : ix_M} {pc t : Nat} {ls : ix_L} {st : List Value} {M : jm} {Q : Option Value → jm → Prop}
theorem jr_br {i : Instr} {v : Value} (hi : m.2.2.2.2.2.2 pc = some i) (hk : (∃ a b c d, i = .tableswitch a b c d) ∨ ∃ a b, i = .lookupswitch a b) (hb : ix_br i pc (v :: st) = some (t, st)) (k : jr A D m t ls st M Q) : jr A D m pc ls (v :: st) M Q := by
  refine jr_sem hi (fun f => ?_) k
  rcases hk with ⟨a, b, c, d, rfl⟩ | ⟨a, b, rfl⟩
  · simp only [ix_sem, ix_ret, ix_alu, ix_loc, ix_hp, hb]
  · simp only [ix_sem, ix_ret, ix_alu, ix_loc, ix_hp, hb]
theorem jr.tsw {dflt lo hi_ : Int} {offs : Array Int} {v : Value} (hi : m.2.2.2.2.2.2 pc = some (.tableswitch dflt lo hi_ offs)) (hb : ix_br (.tableswitch dflt lo hi_ offs) pc (v :: st) = some (t, st)) (k : jr A D m t ls st M Q) : jr A D m pc ls (v :: st) M Q := jr_br hi (Or.inl ⟨_, _, _, _, rfl⟩) hb k
theorem jr.tsw_d {dflt lo hi_ x : Int} {offs : Array Int} (hi : m.2.2.2.2.2.2 pc = some (.tableswitch dflt lo hi_ offs)) (hx : -2147483648 ≤ x ∧ x ≤ 2147483647) (h : x < lo ∨ hi_ < x) (ht : ix_tg pc dflt = some t) (k : jr A D m t ls st M Q) : jr A D m pc ls (.int (Int32.ofInt x) :: st) M Q := by
  refine jr.tsw hi ?_ k
  have e : (Int32.ofInt x).toInt = x := Int32.toInt_ofInt_of_le (by omega) (by omega)
  simp only [ix_br, e, if_pos h, ht]
theorem jr.lsw {dflt : Int} {ps : Array (Int × Int)} {v : Value} (hi : m.2.2.2.2.2.2 pc = some (.lookupswitch dflt ps)) (hb : ix_br (.lookupswitch dflt ps) pc (v :: st) = some (t, st)) (k : jr A D m t ls st M Q) : jr A D m pc ls (v :: st) M Q := jr_br hi (Or.inr ⟨_, _, rfl⟩) hb k
theorem j_off_no (dflt x : Int) : ∀ (ps : List (Int × Int)), (∀ q ∈ ps, q.1 ≠ x) → Op.lookupswitch.offset ps dflt x = dflt
  | [], _ => by simp [Op.lookupswitch.offset]
  | q :: r, h => by
    have h1 := h q List.mem_cons_self
    have h2 := j_off_no dflt x r (fun p hp => h p (List.mem_cons_of_mem _ hp))
    simp only [Op.lookupswitch.offset] at h2 ⊢
    simp [List.find?_cons, h1, h2]
    try exact h2
theorem jr.lsw_d {dflt x : Int} {ps : Array (Int × Int)} (hi : m.2.2.2.2.2.2 pc = some (.lookupswitch dflt ps)) (hx : -2147483648 ≤ x ∧ x ≤ 2147483647) (hs : (ps.toList.zip (ps.toList.drop 1)).all (fun (a, next) => a.1 < next.1) = true) (h : ∀ q ∈ ps.toList, q.1 ≠ x) (ht : ix_tg pc dflt = some t) (k : jr A D m t ls st M Q) : jr A D m pc ls (.int (Int32.ofInt x) :: st) M Q := by
  refine jr.lsw hi ?_ k
  have e : (Int32.ofInt x).toInt = x := Int32.toInt_ofInt_of_le (by omega) (by omega)
  simp only [ix_br, e, if_pos hs, j_off_no dflt x _ h, ht]
end JS
section JS2
variable {A : Nat → Option (Nat × (Nat → Int32))} {D : Nat} {m : ix_M} {pc t : Nat} {ls : ix_L} {st : List Value} {M : jm} {Q : Option Value → jm → Prop}
theorem jr.tsw_k {dflt lo hi_ x : Int} {offs : Array Int} (c : Int) (hi : m.2.2.2.2.2.2 pc = some (.tableswitch dflt lo hi_ offs)) (h : x = c) (hb : ix_br (.tableswitch dflt lo hi_ offs) pc (.int (Int32.ofInt c) :: st) = some (t, st)) (k : jr A D m t ls st M Q) : jr A D m pc ls (.int (Int32.ofInt x) :: st) M Q := by
  subst h
  exact jr.tsw hi hb k
theorem jr.lsw_k {dflt x : Int} {ps : Array (Int × Int)} (c : Int) (hi : m.2.2.2.2.2.2 pc = some (.lookupswitch dflt ps)) (h : x = c) (hb : ix_br (.lookupswitch dflt ps) pc (.int (Int32.ofInt c) :: st) = some (t, st)) (k : jr A D m t ls st M Q) : jr A D m pc ls (.int (Int32.ofInt x) :: st) M Q := by
  subst h
  exact jr.lsw hi hb k
end JS2
end
section
/-! ===== bits: what the payloads of &, |, shifts are ===== -/
theorem jb_tn (x : Int) : (Int32.ofInt x).toBitVec.toNat = (x % 4294967296).toNat := by
  show (BitVec.ofInt 32 x).toNat = _
  rw [BitVec.toNat_ofInt]
  rfl
theorem jbl_tn (x : Int) : (Int64.ofInt x).toBitVec.toNat = (x % 18446744073709551616).toNat := by
  show (BitVec.ofInt 64 x).toNat = _
  rw [BitVec.toNat_ofInt]
  rfl
theorem jb_ti (z : Int32) : z.toInt = if 2 * z.toBitVec.toNat < 4294967296 then (z.toBitVec.toNat : Int) else (z.toBitVec.toNat : Int) - 4294967296 := BitVec.toInt_eq_toNat_cond _
theorem jbl_ti (z : Int64) : z.toInt = if 2 * z.toBitVec.toNat < 18446744073709551616 then (z.toBitVec.toNat : Int) else (z.toBitVec.toNat : Int) - 18446744073709551616 := BitVec.toInt_eq_toNat_cond _
theorem jb_any (z : Int32) : -2147483648 ≤ z.toInt ∧ z.toInt ≤ 2147483647 := by
  have h := z.toBitVec.isLt
  rw [jb_ti]
  split <;> omega
theorem jbl_any (z : Int64) : -9223372036854775808 ≤ z.toInt ∧ z.toInt ≤ 9223372036854775807 := by
  have h := z.toBitVec.isLt
  rw [jbl_ti]
  split <;> omega
theorem j_and_le {x m : Int} (hm : 0 ≤ m ∧ m ≤ 2147483647) : 0 ≤ j_and x m ∧ j_and x m ≤ m := by
  unfold j_and
  have hN : (Int32.ofInt x &&& Int32.ofInt m).toBitVec.toNat ≤ m.toNat := by
    rw [Int32.toBitVec_and, BitVec.toNat_and, jb_tn m, Int.emod_eq_of_lt (by omega) (by omega)]
    exact Nat.and_le_right
  rw [jb_ti]
  split <;> omega
theorem jl_and_le {x m : Int} (hm : 0 ≤ m ∧ m ≤ 9223372036854775807) : 0 ≤ jl_and x m ∧ jl_and x m ≤ m := by
  unfold jl_and
  have hN : (Int64.ofInt x &&& Int64.ofInt m).toBitVec.toNat ≤ m.toNat := by
    rw [Int64.toBitVec_and, BitVec.toNat_and, jbl_tn m, Int.emod_eq_of_lt (by omega) (by omega)]
    exact Nat.and_le_right
  rw [jbl_ti]
  split <;> omega
theorem j_or_lt {x y : Int} (k : Nat) (hk : k ≤ 31) (hx : 0 ≤ x ∧ x < (2 ^ k : Nat)) (hy : 0 ≤ y ∧ y < (2 ^ k : Nat)) : 0 ≤ j_or x y ∧ j_or x y < (2 ^ k : Nat) := by
  have hp : 2 ^ k ≤ 2 ^ 31 := Nat.pow_le_pow_right (by decide) hk
  have hp2 : 2 ^ 31 = 2147483648 := rfl
  unfold j_or
  have hN : (Int32.ofInt x ||| Int32.ofInt y).toBitVec.toNat < 2 ^ k := by
    rw [Int32.toBitVec_or, BitVec.toNat_or, jb_tn x, jb_tn y, Int.emod_eq_of_lt (by omega) (by omega), Int.emod_eq_of_lt (by omega) (by omega)]
    exact Nat.or_lt_two_pow (by omega) (by omega)
  rw [jb_ti]
  split <;> omega
theorem jb_sl : ∀ n, n < 32 → ((Int32.ofInt (n : Nat) &&& 31).toBitVec.smod 32).toNat = n := by decide +kernel
theorem jb_su : ∀ n, n < 32 → (((Int32.ofInt (n : Nat)).toUInt32 &&& Int32.toUInt32 31).toBitVec % 32).toNat = n := by decide +kernel
theorem jb_shl (x : Int) {k : Nat} (hk : k < 32) : (Int32.ofInt x <<< (Int32.ofInt (k : Nat) &&& 31)).toBitVec.toNat = ((x % 4294967296).toNat * 2 ^ k) % 4294967296 := by
  rw [Int32.toBitVec_shiftLeft]
  show ((Int32.ofInt x).toBitVec <<< ((Int32.ofInt (k : Nat) &&& 31).toBitVec.smod 32).toNat).toNat = _
  rw [jb_sl k hk, BitVec.toNat_shiftLeft, jb_tn, Nat.shiftLeft_eq]
theorem j_shl_ex {x : Int} (k : Nat) (hk : k < 32) (h0 : 0 ≤ x) (h1 : x * (2 ^ k : Nat) ≤ 2147483647) : j_shl x (k : Nat) = x * (2 ^ k : Nat) := by
  have hp : 0 < 2 ^ k := Nat.two_pow_pos k
  have hx : x ≤ 2147483647 := by
    have : x * 1 ≤ x * (2 ^ k : Nat) := Int.mul_le_mul_of_nonneg_left (by omega) h0
    omega
  unfold j_shl
  have hN := jb_shl x hk
  obtain ⟨n, rfl⟩ := Int.eq_ofNat_of_zero_le h0
  have e1 : ((n : Int) % 4294967296).toNat = n := by omega
  have e2 : ((n : Int) * (2 ^ k : Nat)) = ((n * 2 ^ k : Nat) : Int) := by simp
  rw [e2] at h1 ⊢
  rw [e1, Nat.mod_eq_of_lt (by omega)] at hN
  rw [jb_ti, hN]
  split <;> omega
theorem j_shr_ex {x : Int} (k : Nat) (hk : k < 32) (h0 : -2147483648 ≤ x) (h1 : x ≤ 2147483647) : j_shr x (k : Nat) = x / (2 ^ k : Nat) := by
  unfold j_shr
  show (Int32.ofInt x >>> (Int32.ofInt (k : Nat) &&& 31)).toBitVec.toInt = _
  rw [Int32.toBitVec_shiftRight]
  show ((Int32.ofInt x).toBitVec.sshiftRight ((Int32.ofInt (k : Nat) &&& 31).toBitVec.smod 32).toNat).toInt = _
  rw [jb_sl k hk, BitVec.toInt_sshiftRight, Int.shiftRight_eq_div_pow]
  have e : (Int32.ofInt x).toBitVec.toInt = x := Int32.toInt_ofInt_of_le (by omega) (by omega)
  rw [e]
section JW
variable {A : Nat → Option (Nat × (Nat → Int32))} {D : Nat} {m : ix_M} {pc : Nat} {ls ls' : ix_L} {st : List Value} {M : jm} {Q : Option Value → jm → Prop}
/-- another payload of the same value -/
theorem jr.iw {x : Int} (y : Int) (h : Int32.ofInt y = Int32.ofInt x) (k : jr A D m pc ls (.int (Int32.ofInt y) :: st) M Q) : jr A D m pc ls (.int (Int32.ofInt x) :: st) M Q := by
  rw [h] at k
  exact k
theorem jr.lw {x : Int} (y : Int) (h : Int64.ofInt y = Int64.ofInt x) (k : jr A D m pc ls (.long (Int64.ofInt y) :: st) M Q) : jr A D m pc ls (.long (Int64.ofInt x) :: st) M Q := by
  rw [h] at k
  exact k
theorem j_w_eq (x : Int) : Int32.ofInt (j_w x) = Int32.ofInt x := Int32.ofInt_toInt _
theorem jl_w_eq (x : Int) : Int64.ofInt (jl_w x) = Int64.ofInt x := Int64.ofInt_toInt _
end JW
theorem jbl_sl : ∀ n, n < 64 → (((Int32.ofInt (n : Nat)).toInt64 &&& 63).toBitVec.smod 64).toNat = n := by decide +kernel
theorem jl_shr_ex {x : Int} (k : Nat) (hk : k < 64) (h0 : -9223372036854775808 ≤ x) (h1 : x ≤ 9223372036854775807) : jl_shr x (k : Nat) = x / (2 ^ k : Nat) := by
  unfold jl_shr
  show (Int64.ofInt x >>> ((Int32.ofInt (k : Nat)).toInt64 &&& 63)).toBitVec.toInt = _
  rw [Int64.toBitVec_shiftRight]
  show ((Int64.ofInt x).toBitVec.sshiftRight (((Int32.ofInt (k : Nat)).toInt64 &&& 63).toBitVec.smod 64).toNat).toInt = _
  rw [jbl_sl k hk, BitVec.toInt_sshiftRight, Int.shiftRight_eq_div_pow]
  have e : (Int64.ofInt x).toBitVec.toInt = x := Int64.toInt_ofInt_of_le (by omega) (by omega)
  rw [e]
end
