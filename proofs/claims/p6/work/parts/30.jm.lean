/-! ===== a flat memory of whole numbers: what the cells hold, by cell and place ===== -/
abbrev jm : Type := Nat → Int → Int
def ju (M : jm) (a : Nat) (i v : Int) : jm := fun b k => if b = a ∧ k = i then v else M b k
theorem ju_same (M : jm) (a : Nat) (i v : Int) : ju M a i v a i = v := by simp [ju]
theorem ju_ne (M : jm) {a b : Nat} {i k : Int} (v : Int) (h : ¬ (b = a ∧ k = i)) : ju M a i v b k = M b k := by simp [ju, h]
theorem ju_c (M : jm) {a b : Nat} {i k : Int} (v : Int) (h : b ≠ a) : ju M a i v b k = M b k := ju_ne M v (fun q => h q.1)
theorem ju_i (M : jm) {a b : Nat} {i k : Int} (v : Int) (h : k ≠ i) : ju M a i v b k = M b k := ju_ne M v (fun q => h q.2)
/-- the value of a field of cell a, by its number, its type and what the memory has -/
def jval (a j : Nat) (ty : FieldType) (x : Int) : Value := match ty with
  | .long => .long (Int64.ofInt x)
  | .object _ => .ref ((xfx a j).getD x.toNat)
  | .array _ => .ref ((xfx a j).getD x.toNat)
  | _ => .int (Int32.ofInt x)
/-- a cell by its shape: (0, n) a row of n ints, (1, n) of longs, (2, n) of booleans, (t, n) of references (t from 3 to 99), (100 + c, n) an object of class c with n fields -/
def jcell (a : Nat) (s : Nat × Nat) (f : Int → Int) : ix_C := bif Nat.beq s.1 0 then .inl (0, s.2, .inl (fun j => Int32.ofInt (f (j : Nat))))
  else bif Nat.beq s.1 1 then .inl (1, s.2, .inr (.inl (fun j => Int64.ofInt (f (j : Nat)))))
  else bif Nat.beq s.1 2 then .inl (2, s.2, .inl (fun j => Int32.ofInt (f (j : Nat))))
  else bif Nat.blt s.1 100 then .inl (s.1, s.2, .inr (.inr (.inr (.inr (xel a)))))
  else .inr (s.1 - 100, (List.range s.2).map (fun j => jval a j ((xT_D (s.1 - 100)).2 j).1 (f (j : Nat))))
def jh (M : jm) (a : Nat) : ix_C := jcell a (xsh a) (M a)
def jH (M : jm) : ix_H := (xNc, xNs_, jh M)
theorem jh_up (M : jm) (a : Nat) (i v : Int) (c : ix_C) (h : c = jcell a (xsh a) (ju M a i v a)) : ix_up (jh M) a c = jh (ju M a i v) := by
  funext b
  by_cases hb : b = a
  · subst hb
    rw [ix_up_self]
    exact h
  · rw [ix_up_ne _ _ hb]
    unfold jh
    congr 1
    funext k
    exact (ju_c M v hb).symm
theorem jH_put (M : jm) (a : Nat) (i v : Int) (c : ix_C) (h : c = jcell a (xsh a) (ju M a i v a)) : ix_put (jH M) a c = jH (ju M a i v) := by
  show (xNc, xNs_, ix_up (jh M) a c) = (xNc, xNs_, jh (ju M a i v))
  rw [jh_up M a i v c h]
theorem jarr {M : jm} {a : Nat} {x : Nat × vp_A} (ha : a < xNc) (h : jcell a (xsh a) (M a) = .inl x) : ix_arr (jH M) a = some x := by
  unfold ix_arr
  rw [show Nat.blt a (jH M).1 = true from Nat.blt_eq.mpr ha]
  show (match jh M a with
    | .inl x => some x
    | .inr _ => none) = _
  unfold jh
  rw [h]
theorem jcell_obj (a c n : Nat) (f : Int → Int) : jcell a (100 + c, n) f = .inr (c, (List.range n).map (fun j => jval a j ((xT_D c).2 j).1 (f (j : Nat)))) := by
  unfold jcell
  have h0 : Nat.beq (100 + c) 0 = false := by
    cases hb : Nat.beq (100 + c) 0 with
    | false => rfl
    | true => have := Nat.eq_of_beq_eq_true hb; omega
  have h1 : Nat.beq (100 + c) 1 = false := by
    cases hb : Nat.beq (100 + c) 1 with
    | false => rfl
    | true => have := Nat.eq_of_beq_eq_true hb; omega
  have h2 : Nat.beq (100 + c) 2 = false := by
    cases hb : Nat.beq (100 + c) 2 with
    | false => rfl
    | true => have := Nat.eq_of_beq_eq_true hb; omega
  have h3 : Nat.blt (100 + c) 100 = false := by
    cases hb : Nat.blt (100 + c) 100 with
    | false => rfl
    | true => have := Nat.blt_eq.mp hb; omega
  simp only [h0, h1, h2, h3, cond_false]
  rw [show 100 + c - 100 = c by omega]
theorem jobj {M : jm} {a c n : Nat} (ha : a < xNc) (h : xsh a = (100 + c, n)) : ix_obj (jH M) a = some (c, (List.range n).map (fun j => jval a j ((xT_D c).2 j).1 (M a (j : Nat)))) := by
  have e : jcell a (xsh a) (M a) = .inr (c, (List.range n).map (fun j => jval a j ((xT_D c).2 j).1 (M a (j : Nat)))) := by
    rw [h]
    exact jcell_obj a c n (M a)
  unfold ix_obj
  rw [show Nat.blt a (jH M).1 = true from Nat.blt_eq.mpr ha]
  show (match jh M a with
    | .inr x => some x
    | .inl _ => none) = _
  unfold jh
  rw [e]
theorem jarr0 {M : jm} {a n : Nat} (ha : a < xNc) (h : xsh a = (0, n)) : ix_arr (jH M) a = some (0, n, .inl (fun j => Int32.ofInt (M a (j : Nat)))) := jarr ha (by rw [h]; rfl)
theorem jarr1 {M : jm} {a n : Nat} (ha : a < xNc) (h : xsh a = (1, n)) : ix_arr (jH M) a = some (1, n, .inr (.inl (fun j => Int64.ofInt (M a (j : Nat))))) := jarr ha (by rw [h]; rfl)
theorem jarr2 {M : jm} {a n : Nat} (ha : a < xNc) (h : xsh a = (2, n)) : ix_arr (jH M) a = some (2, n, .inl (fun j => Int32.ofInt (M a (j : Nat)))) := jarr ha (by rw [h]; rfl)
theorem jarrq {M : jm} {a t n : Nat} (ha : a < xNc) (h : xsh a = (t, n)) (h3 : 3 ≤ t) (h9 : t < 100) : ix_arr (jH M) a = some (t, n, .inr (.inr (.inr (.inr (xel a))))) := jarr ha (by
  rw [h]
  unfold jcell
  have q0 : Nat.beq t 0 = false := by
    cases hb : Nat.beq t 0 with
    | false => rfl
    | true => have := Nat.eq_of_beq_eq_true hb; omega
  have q1 : Nat.beq t 1 = false := by
    cases hb : Nat.beq t 1 with
    | false => rfl
    | true => have := Nat.eq_of_beq_eq_true hb; omega
  have q2 : Nat.beq t 2 = false := by
    cases hb : Nat.beq t 2 with
    | false => rfl
    | true => have := Nat.eq_of_beq_eq_true hb; omega
  have q3 : Nat.blt t 100 = true := Nat.blt_eq.mpr h9
  simp only [q0, q1, q2, q3, cond_false, cond_true])
/-- a place within a row -/
theorem jin {x : Int} {n : Nat} (h0 : 0 ≤ x) (h1 : x < n) (hn : n ≤ 2000000) : ¬ (Int32.ofInt x < 0 ∨ n ≤ (Int32.ofInt x).toNatClampNeg) ∧ (Int32.ofInt x).toNatClampNeg = x.toNat := by
  have e : (Int32.ofInt x).toNatClampNeg = x.toNat := Int32.toNatClampNeg_ofInt_of_le (by omega) (by omega)
  have e2 : (Int32.ofInt x).toInt = x := Int32.toInt_ofInt_of_le (by omega) (by omega)
  refine ⟨fun h => ?_, e⟩
  rcases h with h | h
  · have := Int32.lt_iff_toInt_lt.mp h
    rw [e2] at this
    have h3 : (0 : Int32).toInt = 0 := rfl
    omega
  · rw [e] at h
    omega
theorem jupd (f : Int → Int) {x : Int} (h0 : 0 ≤ x) (v : Int) : upd (fun j => Int32.ofInt (f (j : Nat))) x.toNat (Int32.ofInt v) = fun (j : Nat) => Int32.ofInt (if (j : Int) = x then v else f (j : Nat)) := by
  funext j
  unfold upd
  by_cases hj : j = x.toNat
  · subst hj
    rw [if_pos rfl, if_pos (by omega)]
  · rw [if_neg hj, if_neg (by omega)]
theorem jupdL (f : Int → Int) {x : Int} (h0 : 0 ≤ x) (v : Int) : vp_updL (fun j => Int64.ofInt (f (j : Nat))) x.toNat (Int64.ofInt v) = fun (j : Nat) => Int64.ofInt (if (j : Int) = x then v else f (j : Nat)) := by
  funext j
  unfold vp_updL
  by_cases hj : j = x.toNat
  · subst hj
    rw [if_pos rfl, if_pos (by omega)]
  · rw [if_neg hj, if_neg (by omega)]
theorem ju_row (M : jm) (a : Nat) (i v : Int) : ju M a i v a = fun k => if k = i then v else M a k := by
  funext k
  simp [ju]
/-! ===== runs over the memory ===== -/
/-- from here the frame comes to its end, with Q -/
def jr (A : Nat → Option (Nat × (Nat → Int32))) (D : Nat) (m : ix_M) (pc : Nat) (ls : ix_L) (st : List Value) (M : jm) (Q : Option Value → jm → Prop) : Prop := ∃ (K N : Nat) (rv : Option Value) (M' : jm), (∀ K', K ≤ K' → ∀ D', D ≤ D' → ix_R (xT A) (ix_run (xT A) K' D') m N (pc, ls, st, jH M) (rv, jH M')) ∧ Q rv M'
/-- a call answers, with Q -/
def jc (A : Nat → Option (Nat × (Nat → Int32))) (D mid : Nat) (av : List Value) (M : jm) (Q : Option Value → jm → Prop) : Prop := ∃ (K : Nat) (rv : Option Value) (M' : jm), (∀ K', K ≤ K' → ∀ D', D ≤ D' → ix_run (xT A) K' D' mid av (jH M) = some (rv, jH M')) ∧ Q rv M'
section JR
variable {A : Nat → Option (Nat × (Nat → Int32))} {D : Nat} {m : ix_M} {pc pc' : Nat} {ls ls' : ix_L} {st st' : List Value} {M M' : jm} {Q Q' : Option Value → jm → Prop}
theorem jr.mono (h : jr A D m pc ls st M Q) (hq : ∀ rv M', Q rv M' → Q' rv M') : jr A D m pc ls st M Q' := by
  obtain ⟨K, N, rv, M1, h1, h2⟩ := h
  exact ⟨K, N, rv, M1, h1, hq _ _ h2⟩
theorem jc.mono {mid : Nat} {av : List Value} (h : jc A D mid av M Q) (hq : ∀ rv M', Q rv M' → Q' rv M') : jc A D mid av M Q' := by
  obtain ⟨K, rv, M1, h1, h2⟩ := h
  exact ⟨K, rv, M1, h1, hq _ _ h2⟩
theorem jc.deep {D2 mid : Nat} {av : List Value} (h : jc A D mid av M Q) (hd : D ≤ D2) : jc A D2 mid av M Q := by
  obtain ⟨K, rv, M1, h1, h2⟩ := h
  exact ⟨K, rv, M1, fun K' hK D' hD => h1 K' hK D' (Nat.le_trans hd hD), h2⟩
theorem jr_sem {i : Instr} (hi : m.2.2.2.2.2.2 pc = some i) (h : ∀ f : ix_F, ix_sem (xT A) f m i pc ls st (jH M) = some (.inl (pc', ls', st', jH M'))) (k : jr A D m pc' ls' st' M' Q) : jr A D m pc ls st M Q := by
  obtain ⟨K, N, rv, M1, h1, h2⟩ := k
  refine ⟨K, 1 + N, rv, M1, fun K' hK D' hD => ?_, h2⟩
  refine ix_R.step 1 ?_ (h1 K' hK D' hD)
  exact ix_n_s (by rw [ix_one_sem _ _ _ _ _ _ _ hi]; exact h _)
/-- a method's entry -/
theorem jc_of {mid : Nat} {av : List Value} (hM : ix_tM (xT A) mid = some m) (hl : (lg_sl av).length ≤ m.2.2.2.1) (hls : lv_args 0 av = ls) (k : jr A D m 0 ls [] M Q) : jc A (D + 1) mid av M Q := by
  obtain ⟨K, N, rv, M1, h1, h2⟩ := k
  refine ⟨K + N, rv, M1, fun K' hK D' hD => ?_, h2⟩
  obtain ⟨d, rfl⟩ : ∃ d, D' = d + 1 := ⟨D' - 1, by omega⟩
  refine ix_R.run hM hl (by rw [hls]; exact h1 K' (by omega) d (by omega)) ?_
  calc N ≤ 2 ^ N := Nat.le_of_lt Nat.lt_two_pow_self
    _ ≤ 2 ^ K' := Nat.pow_le_pow_right (by decide) (by omega)
/-- the ends of a method -/
theorem jr_ret {i : Instr} {rv : Option Value} (hi : m.2.2.2.2.2.2 pc = some i) (h : ix_ret m.2.2.2.2.1 i st = some rv) (q : Q rv M) : jr A D m pc ls st M Q := by
  refine ⟨0, 1, rv, M, fun K' hK D' hD => ?_, q⟩
  refine ix_R.fin 1 (ix_n_e ?_)
  rw [ix_one_sem _ _ _ _ _ _ _ hi]
  unfold ix_sem
  rw [h]
/-- a call -/
theorem jr_cal {i : Instr} {rest : List Value} {mid : Nat} {av : List Value} (hk : (∃ n, i = .invokevirtual n) ∨ (∃ n, i = .invokespecial n) ∨ ∃ n, i = .invokestatic n) (hi : m.2.2.2.2.2.2 pc = some i) (hc : ∀ (f : ix_F) (rv : Option Value) (M1 : jm), f mid av (jH M) = some (rv, jH M1) → ix_cal (xT A) f m.1 i st (jH M) = some (rv.toList ++ rest, jH M1)) (k : jc A D mid av M (fun rv M1 => jr A D m (pc + 3) ls (rv.toList ++ rest) M1 Q)) : jr A D m pc ls st M Q := by
  obtain ⟨K, rv, M1, h1, K2, N, rv2, M2, h3, h4⟩ := k
  refine ⟨K + K2, 1 + N, rv2, M2, fun K' hK D' hD => ?_, h4⟩
  refine ix_R.step 1 (ix_n_call hk hi (hc _ rv M1 (h1 K' (by omega) D' hD))) (h3 K' (by omega) D' hD)
theorem jr_v {idx kd mid na a c n : Nat} {rest : List Value} {M' : ix_M} (hi : m.2.2.2.2.2.2 pc = some (.invokevirtual idx)) (h1 : ix_tI (xT A) m.1 idx = some (kd, mid, na)) (hkd : kd = 3 ∨ kd = 4) (h2 : st.drop na = .ref a :: rest) (h3 : ix_tM (xT A) mid = some M') (ha : a < xNc) (hs : xsh a = (100 + c, n)) (h5 : c = M'.1 ∧ ix_cats rest ≤ 8 ∧ na ≤ st.length) {av : List Value} (hav : .ref a :: (st.take na).reverse = av) (k : jc A D mid av M (fun rv M1 => jr A D m (pc + 3) ls (rv.toList ++ rest) M1 Q)) : jr A D m pc ls st M Q :=
  jr_cal (Or.inl ⟨_, rfl⟩) hi (fun f rv M1 hf => ix_cal_v h1 hkd h2 h3 (jobj ha hs) h5 (by rw [hav]; exact hf)) k
theorem jr_s {idx kd mid na : Nat} (hi : m.2.2.2.2.2.2 pc = some (.invokestatic idx)) (h1 : ix_tI (xT A) m.1 idx = some (kd, mid, na)) (hkd : kd = 5 ∨ kd = 6) (h5 : ix_cats (st.drop na) ≤ 8 ∧ na ≤ st.length) {av rest : List Value} (hav : (st.take na).reverse = av) (hr : st.drop na = rest) (k : jc A D mid av M (fun rv M1 => jr A D m (pc + 3) ls (rv.toList ++ rest) M1 Q)) : jr A D m pc ls st M Q :=
  jr_cal (Or.inr (Or.inr ⟨_, rfl⟩)) hi (fun f rv M1 hf => by rw [← hr]; exact ix_cal_s h1 hkd h5 (by rw [hav]; exact hf)) k
end JR
