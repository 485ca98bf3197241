section
theorem zne {a b : Nat} (h : Nat.beq a b = false) : (OfNat.ofNat a : Int) ≠ (OfNat.ofNat b : Int) := fun e => Nat.ne_of_beq_eq_false h (Int.ofNat.inj e)
theorem nne {a b : Nat} (h : Nat.beq a b = false) : a ≠ b := Nat.ne_of_beq_eq_false h
theorem nlt {a b : Nat} (h : Nat.blt a b = true) : a < b := Nat.le_of_ble_eq_true h
theorem rgl {x : Int} (h : (decide ((-2147483648 : Int) ≤ x) && decide (x ≤ 2147483647)) = true) : -2147483648 ≤ x ∧ x ≤ 2147483647 := by
  rw [Bool.and_eq_true, decide_eq_true_eq, decide_eq_true_eq] at h
  exact h
theorem jbp : ∀ n : Nat, n < 128 → (Int8.ofInt (OfNat.ofNat n : Int)).toInt32 = Int32.ofInt (OfNat.ofNat n : Int) := by decide +kernel
theorem rgb {x a b : Int} (h : a ≤ x ∧ x ≤ b) (e : (decide ((-2147483648 : Int) ≤ a) && decide (b ≤ 2147483647)) = true) : -2147483648 ≤ x ∧ x ≤ 2147483647 := by
  rw [Bool.and_eq_true, decide_eq_true_eq, decide_eq_true_eq] at e
  exact ⟨Int.le_trans e.1 h.1, Int.le_trans h.2 e.2⟩
theorem rgq {x a b : Int} (h : (decide (a ≤ x) && decide (x ≤ b)) = true) : a ≤ x ∧ x ≤ b := by
  rw [Bool.and_eq_true, decide_eq_true_eq, decide_eq_true_eq] at h
  exact h
/-! ===== rules: an instruction, a row ===== -/
section JI
variable {A : Nat → Option (Nat × (Nat → Int32))} {D : Nat} {m : ix_M} {pc : Nat} {ls ls' : ix_L} {st : List Value} {M : jm} {Q : Option Value → jm → Prop}
/-- the payloads of what isn't plain arithmetic -/
noncomputable def j_and (x y : Int) : Int := (Int32.ofInt x &&& Int32.ofInt y).toInt
noncomputable def j_or (x y : Int) : Int := (Int32.ofInt x ||| Int32.ofInt y).toInt
noncomputable def j_shl (x y : Int) : Int := (Int32.ofInt x <<< (Int32.ofInt y &&& 31)).toInt
noncomputable def j_shr (x y : Int) : Int := (Int32.ofInt x >>> (Int32.ofInt y &&& 31)).toInt
noncomputable def j_ushr (x y : Int) : Int := ((Int32.ofInt x).toUInt32 >>> ((Int32.ofInt y).toUInt32 &&& Int32.toUInt32 31)).toInt32.toInt
noncomputable def jl_and (x y : Int) : Int := (Int64.ofInt x &&& Int64.ofInt y).toInt
noncomputable def jl_or (x y : Int) : Int := (Int64.ofInt x ||| Int64.ofInt y).toInt
noncomputable def jl_xor (x y : Int) : Int := (Int64.ofInt x ^^^ Int64.ofInt y).toInt
noncomputable def jl_shl (x y : Int) : Int := (Int64.ofInt x <<< ((Int32.ofInt y).toInt64 &&& 63)).toInt
noncomputable def jl_shr (x y : Int) : Int := (Int64.ofInt x >>> ((Int32.ofInt y).toInt64 &&& 63)).toInt
noncomputable def jl_ushr (x y : Int) : Int := ((Int64.ofInt x).toUInt64 >>> ((Int32.ofInt y).toInt64.toUInt64 &&& Int64.toUInt64 63)).toInt64.toInt
noncomputable def jl_div (x y : Int) : Int := (Int64.ofInt x / Int64.ofInt y).toInt
noncomputable def jl_rem (x y : Int) : Int := (Int64.ofInt x - Int64.ofInt x / Int64.ofInt y * Int64.ofInt y).toInt
noncomputable def j_div (x y : Int) : Int := (Int32.ofInt x / Int32.ofInt y).toInt
noncomputable def j_rem (x y : Int) : Int := (Int32.ofInt x - Int32.ofInt x / Int32.ofInt y * Int32.ofInt y).toInt
noncomputable def j_w (x : Int) : Int := (Int32.ofInt x).toInt
noncomputable def jl_w (x : Int) : Int := (Int64.ofInt x).toInt
noncomputable def j_b (x : Int) : Int := (Int32.ofInt x).toInt8.toInt32.toInt
noncomputable def j_s (x : Int) : Int := (Int32.ofInt x).toInt16.toInt32.toInt
noncomputable def j_c (x : Int) : Int := ((Int32.ofInt x).toUInt32 % 65536).toInt32.toInt
noncomputable def jl_cmp (x y : Int) : Int := (lg_cmp (Int64.ofInt x) (Int64.ofInt y)).toInt
theorem j_w_id {x : Int} (h : -2147483648 ≤ x ∧ x ≤ 2147483647) : j_w x = x := Int32.toInt_ofInt_of_le (by omega) (by omega)
theorem jl_w_id {x : Int} (h : -9223372036854775808 ≤ x ∧ x ≤ 9223372036854775807) : jl_w x = x := Int64.toInt_ofInt_of_le (by omega) (by omega)
theorem jr.iconst {n : Int} (hi : m.2.2.2.2.2.2 pc = some (.iconst n)) (k : jr A D m (pc + 1) ls (.int (Int32.ofInt n) :: st) M Q) : jr A D m pc ls st M Q := jr_sem hi (fun f => fxk_iconst rfl) k
theorem jr.bipush {n : Int} (hi : m.2.2.2.2.2.2 pc = some (.bipush n)) (hv : (Int8.ofInt n).toInt32 = Int32.ofInt n) (k : jr A D m (pc + 2) ls (.int (Int32.ofInt n) :: st) M Q) : jr A D m pc ls st M Q := jr_sem hi (fun f => fxk_bipush (by rw [← hv]; rfl)) k
theorem jr.sipush {n : Int} (hi : m.2.2.2.2.2.2 pc = some (.sipush n)) (hv : (Int16.ofInt n).toInt32 = Int32.ofInt n) (k : jr A D m (pc + 3) ls (.int (Int32.ofInt n) :: st) M Q) : jr A D m pc ls st M Q := jr_sem hi (fun f => fxk_sipush (by rw [← hv]; rfl)) k
theorem jr.lconst {n : Fin 2} {x : Int} (hi : m.2.2.2.2.2.2 pc = some (.lconst n)) (hv : Int64.ofNat (n : Nat) = Int64.ofInt x) (k : jr A D m (pc + 1) ls (.long (Int64.ofInt x) :: st) M Q) : jr A D m pc ls st M Q := jr_sem hi (fun f => fxk_lconst (by rw [← hv]; rfl)) k
theorem jr.ldc {idx : Nat} {c : Int32} {x : Int} (hi : m.2.2.2.2.2.2 pc = some (.ldc idx)) (hk : ix_tK (xT A) m.1 idx = some (.int c)) (hv : c = Int32.ofInt x) (k : jr A D m (pc + 2) ls (.int (Int32.ofInt x) :: st) M Q) : jr A D m pc ls st M Q := jr_sem hi (fun f => fxk_ldc (by unfold fx_ldc; rw [hk, hv])) k
theorem jr.ldcw {idx : Nat} {c : Int32} {x : Int} (hi : m.2.2.2.2.2.2 pc = some (.ldc_w idx)) (hk : ix_tK (xT A) m.1 idx = some (.int c)) (hv : c = Int32.ofInt x) (k : jr A D m (pc + 3) ls (.int (Int32.ofInt x) :: st) M Q) : jr A D m pc ls st M Q := jr_sem hi (fun f => fxk_ldc_w (by unfold fx_ldc_w; rw [hk, hv])) k
theorem jr.ldc2 {idx : Nat} {c : Int64} {x : Int} (hi : m.2.2.2.2.2.2 pc = some (.ldc2_w idx)) (hk : ix_tK (xT A) m.1 idx = some (.long c)) (hv : c = Int64.ofInt x) (k : jr A D m (pc + 3) ls (.long (Int64.ofInt x) :: st) M Q) : jr A D m pc ls st M Q := jr_sem hi (fun f => fxk_ldc2_w (by unfold fx_ldc2_w; rw [hk, hv])) k
theorem jr.iload {k : Nat} {x : Int32} (hi : m.2.2.2.2.2.2 pc = some (.iload k)) (hl : ix_ld ls k = some (.int x)) (kk : jr A D m (pc + 2) ls (.int x :: st) M Q) : jr A D m pc ls st M Q := jr_sem hi (fun f => fxk_iload (by unfold fx_iload; rw [hl])) kk
theorem jr.iload_n {k : Fin 4} {x : Int32} (hi : m.2.2.2.2.2.2 pc = some (.iload_n k)) (hl : ix_ld ls k.val = some (.int x)) (kk : jr A D m (pc + 1) ls (.int x :: st) M Q) : jr A D m pc ls st M Q := jr_sem hi (fun f => fxk_iload_n (by unfold fx_iload; rw [hl])) kk
theorem jr.istore {k : Nat} {x : Int32} (hi : m.2.2.2.2.2.2 pc = some (.istore k)) (hk : k < m.2.2.2.1) (hl : ix_st1 ls k (.int x) = ls') (kk : jr A D m (pc + 2) ls' st M Q) : jr A D m pc ls (.int x :: st) M Q := jr_sem hi (fun f => fxk_istore (by unfold fx_istore; simp only [if_pos hk, hl])) kk
theorem jr.istore_n {k : Fin 4} {x : Int32} (hi : m.2.2.2.2.2.2 pc = some (.istore_n k)) (hk : k.val < m.2.2.2.1) (hl : ix_st1 ls k.val (.int x) = ls') (kk : jr A D m (pc + 1) ls' st M Q) : jr A D m pc ls (.int x :: st) M Q := jr_sem hi (fun f => fxk_istore_n (by unfold fx_istore; simp only [if_pos hk, hl])) kk
theorem jr.lload {k : Nat} {x : Int64} (hi : m.2.2.2.2.2.2 pc = some (.lload k)) (hl : ix_ld ls k = some (.long x)) (kk : jr A D m (pc + 2) ls (.long x :: st) M Q) : jr A D m pc ls st M Q := jr_sem hi (fun f => fxk_lload (by unfold fx_lload; rw [hl])) kk
theorem jr.lload_n {k : Fin 4} {x : Int64} (hi : m.2.2.2.2.2.2 pc = some (.lload_n k)) (hl : ix_ld ls k.val = some (.long x)) (kk : jr A D m (pc + 1) ls (.long x :: st) M Q) : jr A D m pc ls st M Q := jr_sem hi (fun f => fxk_lload_n (by unfold fx_lload; rw [hl])) kk
theorem jr.lstore {k : Nat} {x : Int64} (hi : m.2.2.2.2.2.2 pc = some (.lstore k)) (hk : k + 1 < m.2.2.2.1) (hl : ix_st2 ls k (.long x) = ls') (kk : jr A D m (pc + 2) ls' st M Q) : jr A D m pc ls (.long x :: st) M Q := jr_sem hi (fun f => fxk_lstore (by unfold fx_lstore; simp only [if_pos hk, hl])) kk
theorem jr.lstore_n {k : Fin 4} {x : Int64} (hi : m.2.2.2.2.2.2 pc = some (.lstore_n k)) (hk : k.val + 1 < m.2.2.2.1) (hl : ix_st2 ls k.val (.long x) = ls') (kk : jr A D m (pc + 1) ls' st M Q) : jr A D m pc ls (.long x :: st) M Q := jr_sem hi (fun f => fxk_lstore_n (by unfold fx_lstore; simp only [if_pos hk, hl])) kk
theorem jr.aload {k : Nat} {x : Nat} (hi : m.2.2.2.2.2.2 pc = some (.aload k)) (hl : ix_ld ls k = some (.ref x)) (kk : jr A D m (pc + 2) ls (.ref x :: st) M Q) : jr A D m pc ls st M Q := jr_sem hi (fun f => fxk_aload (by unfold fx_aload; rw [hl])) kk
theorem jr.aload_n {k : Fin 4} {x : Nat} (hi : m.2.2.2.2.2.2 pc = some (.aload_n k)) (hl : ix_ld ls k.val = some (.ref x)) (kk : jr A D m (pc + 1) ls (.ref x :: st) M Q) : jr A D m pc ls st M Q := jr_sem hi (fun f => fxk_aload_n (by unfold fx_aload; rw [hl])) kk
theorem jr.astore {k : Nat} {x : Nat} (hi : m.2.2.2.2.2.2 pc = some (.astore k)) (hk : k < m.2.2.2.1) (hl : ix_st1 ls k (.ref x) = ls') (kk : jr A D m (pc + 2) ls' st M Q) : jr A D m pc ls (.ref x :: st) M Q := jr_sem hi (fun f => fxk_astore (by unfold fx_astore; simp only [if_pos hk, hl])) kk
theorem jr.astore_n {k : Fin 4} {x : Nat} (hi : m.2.2.2.2.2.2 pc = some (.astore_n k)) (hk : k.val < m.2.2.2.1) (hl : ix_st1 ls k.val (.ref x) = ls') (kk : jr A D m (pc + 1) ls' st M Q) : jr A D m pc ls (.ref x :: st) M Q := jr_sem hi (fun f => fxk_astore_n (by unfold fx_astore; simp only [if_pos hk, hl])) kk
theorem jr.iinc {k : Nat} {n x : Int} (hi : m.2.2.2.2.2.2 pc = some (.iinc k n)) (h0 : ix_ld ls k = some (.int (Int32.ofInt x))) (hk : k < m.2.2.2.1) (hl : ix_st1 ls k (.int (Int32.ofInt (x + n))) = ls') (kk : jr A D m (pc + 3) ls' st M Q) : jr A D m pc ls st M Q := jr_sem hi (fun f => fxk_iinc (by unfold fx_iinc; rw [h0]; simp only [if_pos hk, ← Int32.ofInt_add, hl])) kk
theorem jr.iadd {x y : Int} (hi : m.2.2.2.2.2.2 pc = some .iadd) (k : jr A D m (pc + 1) ls (.int (Int32.ofInt (x + y)) :: st) M Q) : jr A D m pc ls (.int (Int32.ofInt y) :: .int (Int32.ofInt x) :: st) M Q := jr_sem hi (fun f => fxk_iadd (by rw [Int32.ofInt_add]; rfl)) k
theorem jr.isub {x y : Int} (hi : m.2.2.2.2.2.2 pc = some .isub) (k : jr A D m (pc + 1) ls (.int (Int32.ofInt (x - y)) :: st) M Q) : jr A D m pc ls (.int (Int32.ofInt y) :: .int (Int32.ofInt x) :: st) M Q := jr_sem hi (fun f => fxk_isub (by rw [Int32.ofInt_sub]; rfl)) k
theorem jr.imul {x y : Int} (hi : m.2.2.2.2.2.2 pc = some .imul) (k : jr A D m (pc + 1) ls (.int (Int32.ofInt (x * y)) :: st) M Q) : jr A D m pc ls (.int (Int32.ofInt y) :: .int (Int32.ofInt x) :: st) M Q := jr_sem hi (fun f => fxk_imul (by rw [Int32.ofInt_mul]; rfl)) k
theorem jr.ladd {x y : Int} (hi : m.2.2.2.2.2.2 pc = some .ladd) (k : jr A D m (pc + 1) ls (.long (Int64.ofInt (x + y)) :: st) M Q) : jr A D m pc ls (.long (Int64.ofInt y) :: .long (Int64.ofInt x) :: st) M Q := jr_sem hi (fun f => fxk_ladd (by rw [Int64.ofInt_add]; rfl)) k
theorem jr.lsub {x y : Int} (hi : m.2.2.2.2.2.2 pc = some .lsub) (k : jr A D m (pc + 1) ls (.long (Int64.ofInt (x - y)) :: st) M Q) : jr A D m pc ls (.long (Int64.ofInt y) :: .long (Int64.ofInt x) :: st) M Q := jr_sem hi (fun f => fxk_lsub (by rw [Int64.ofInt_sub]; rfl)) k
theorem jr.lmul {x y : Int} (hi : m.2.2.2.2.2.2 pc = some .lmul) (k : jr A D m (pc + 1) ls (.long (Int64.ofInt (x * y)) :: st) M Q) : jr A D m pc ls (.long (Int64.ofInt y) :: .long (Int64.ofInt x) :: st) M Q := jr_sem hi (fun f => fxk_lmul (by rw [Int64.ofInt_mul]; rfl)) k
theorem jr.ineg {x : Int} (hi : m.2.2.2.2.2.2 pc = some .ineg) (k : jr A D m (pc + 1) ls (.int (Int32.ofInt (-x)) :: st) M Q) : jr A D m pc ls (.int (Int32.ofInt x) :: st) M Q := jr_sem hi (fun f => fxk_ineg (by rw [Int32.ofInt_neg]; rfl)) k
theorem jr.lneg {x : Int} (hi : m.2.2.2.2.2.2 pc = some .lneg) (k : jr A D m (pc + 1) ls (.long (Int64.ofInt (-x)) :: st) M Q) : jr A D m pc ls (.long (Int64.ofInt x) :: st) M Q := jr_sem hi (fun f => fxk_lneg (by rw [Int64.ofInt_neg]; rfl)) k
theorem jr.iand {x y : Int} (hi : m.2.2.2.2.2.2 pc = some .iand) (k : jr A D m (pc + 1) ls (.int (Int32.ofInt (j_and x y)) :: st) M Q) : jr A D m pc ls (.int (Int32.ofInt y) :: .int (Int32.ofInt x) :: st) M Q := jr_sem hi (fun f => fxk_iand (by unfold j_and; rw [Int32.ofInt_toInt]; rfl)) k
theorem jr.ior {x y : Int} (hi : m.2.2.2.2.2.2 pc = some .ior) (k : jr A D m (pc + 1) ls (.int (Int32.ofInt (j_or x y)) :: st) M Q) : jr A D m pc ls (.int (Int32.ofInt y) :: .int (Int32.ofInt x) :: st) M Q := jr_sem hi (fun f => fxk_ior (by unfold j_or; rw [Int32.ofInt_toInt]; rfl)) k
theorem jr.ishl {x y : Int} (hi : m.2.2.2.2.2.2 pc = some .ishl) (k : jr A D m (pc + 1) ls (.int (Int32.ofInt (j_shl x y)) :: st) M Q) : jr A D m pc ls (.int (Int32.ofInt y) :: .int (Int32.ofInt x) :: st) M Q := jr_sem hi (fun f => fxk_ishl (by unfold j_shl; rw [Int32.ofInt_toInt]; rfl)) k
theorem jr.ishr {x y : Int} (hi : m.2.2.2.2.2.2 pc = some .ishr) (k : jr A D m (pc + 1) ls (.int (Int32.ofInt (j_shr x y)) :: st) M Q) : jr A D m pc ls (.int (Int32.ofInt y) :: .int (Int32.ofInt x) :: st) M Q := jr_sem hi (fun f => fxk_ishr (by unfold j_shr; rw [Int32.ofInt_toInt]; rfl)) k
theorem jr.iushr {x y : Int} (hi : m.2.2.2.2.2.2 pc = some .iushr) (k : jr A D m (pc + 1) ls (.int (Int32.ofInt (j_ushr x y)) :: st) M Q) : jr A D m pc ls (.int (Int32.ofInt y) :: .int (Int32.ofInt x) :: st) M Q := jr_sem hi (fun f => fxk_iushr (by unfold j_ushr; rw [Int32.ofInt_toInt]; rfl)) k
theorem jr.land {x y : Int} (hi : m.2.2.2.2.2.2 pc = some .land) (k : jr A D m (pc + 1) ls (.long (Int64.ofInt (jl_and x y)) :: st) M Q) : jr A D m pc ls (.long (Int64.ofInt y) :: .long (Int64.ofInt x) :: st) M Q := jr_sem hi (fun f => fxk_land (by unfold jl_and; rw [Int64.ofInt_toInt]; rfl)) k
theorem jr.lor {x y : Int} (hi : m.2.2.2.2.2.2 pc = some .lor) (k : jr A D m (pc + 1) ls (.long (Int64.ofInt (jl_or x y)) :: st) M Q) : jr A D m pc ls (.long (Int64.ofInt y) :: .long (Int64.ofInt x) :: st) M Q := jr_sem hi (fun f => fxk_lor (by unfold jl_or; rw [Int64.ofInt_toInt]; rfl)) k
theorem jr.lxor {x y : Int} (hi : m.2.2.2.2.2.2 pc = some .lxor) (k : jr A D m (pc + 1) ls (.long (Int64.ofInt (jl_xor x y)) :: st) M Q) : jr A D m pc ls (.long (Int64.ofInt y) :: .long (Int64.ofInt x) :: st) M Q := jr_sem hi (fun f => fxk_lxor (by unfold jl_xor; rw [Int64.ofInt_toInt]; rfl)) k
theorem jr.lshl {x y : Int} (hi : m.2.2.2.2.2.2 pc = some .lshl) (k : jr A D m (pc + 1) ls (.long (Int64.ofInt (jl_shl x y)) :: st) M Q) : jr A D m pc ls (.int (Int32.ofInt y) :: .long (Int64.ofInt x) :: st) M Q := jr_sem hi (fun f => fxk_lshl (by unfold jl_shl; rw [Int64.ofInt_toInt]; rfl)) k
theorem jr.lshr {x y : Int} (hi : m.2.2.2.2.2.2 pc = some .lshr) (k : jr A D m (pc + 1) ls (.long (Int64.ofInt (jl_shr x y)) :: st) M Q) : jr A D m pc ls (.int (Int32.ofInt y) :: .long (Int64.ofInt x) :: st) M Q := jr_sem hi (fun f => fxk_lshr (by unfold jl_shr; rw [Int64.ofInt_toInt]; rfl)) k
theorem jr.lushr {x y : Int} (hi : m.2.2.2.2.2.2 pc = some .lushr) (k : jr A D m (pc + 1) ls (.long (Int64.ofInt (jl_ushr x y)) :: st) M Q) : jr A D m pc ls (.int (Int32.ofInt y) :: .long (Int64.ofInt x) :: st) M Q := jr_sem hi (fun f => fxk_lushr (by unfold jl_ushr; rw [Int64.ofInt_toInt]; rfl)) k
theorem jr.idiv {x y : Int} (hi : m.2.2.2.2.2.2 pc = some .idiv) (h0 : ¬ Int32.ofInt y = 0) (k : jr A D m (pc + 1) ls (.int (Int32.ofInt (j_div x y)) :: st) M Q) : jr A D m pc ls (.int (Int32.ofInt y) :: .int (Int32.ofInt x) :: st) M Q := jr_sem hi (fun f => fxk_idiv (by unfold j_div fx_idiv; rw [Int32.ofInt_toInt]; simp only [if_neg h0])) k
theorem jr.irem {x y : Int} (hi : m.2.2.2.2.2.2 pc = some .irem) (h0 : ¬ Int32.ofInt y = 0) (k : jr A D m (pc + 1) ls (.int (Int32.ofInt (j_rem x y)) :: st) M Q) : jr A D m pc ls (.int (Int32.ofInt y) :: .int (Int32.ofInt x) :: st) M Q := jr_sem hi (fun f => fxk_irem (by unfold j_rem fx_irem; rw [Int32.ofInt_toInt]; simp only [if_neg h0])) k
theorem jr.ldiv {x y : Int} (hi : m.2.2.2.2.2.2 pc = some .ldiv) (h0 : ¬ Int64.ofInt y = 0) (k : jr A D m (pc + 1) ls (.long (Int64.ofInt (jl_div x y)) :: st) M Q) : jr A D m pc ls (.long (Int64.ofInt y) :: .long (Int64.ofInt x) :: st) M Q := jr_sem hi (fun f => fxk_ldiv (by unfold jl_div fx_ldiv; rw [Int64.ofInt_toInt]; simp only [if_neg h0])) k
theorem jr.lrem {x y : Int} (hi : m.2.2.2.2.2.2 pc = some .lrem) (h0 : ¬ Int64.ofInt y = 0) (k : jr A D m (pc + 1) ls (.long (Int64.ofInt (jl_rem x y)) :: st) M Q) : jr A D m pc ls (.long (Int64.ofInt y) :: .long (Int64.ofInt x) :: st) M Q := jr_sem hi (fun f => fxk_lrem (by unfold jl_rem fx_lrem; rw [Int64.ofInt_toInt]; simp only [if_neg h0])) k
theorem jr.i2l {x : Int} (hi : m.2.2.2.2.2.2 pc = some .i2l) (hx : -2147483648 ≤ x ∧ x ≤ 2147483647) (k : jr A D m (pc + 1) ls (.long (Int64.ofInt x) :: st) M Q) : jr A D m pc ls (.int (Int32.ofInt x) :: st) M Q := jr_sem hi (fun f => fxk_i2l (by
  have e : Int64.ofInt x = (Int32.ofInt x).toInt64 := by rw [← Int64.ofInt_int32ToInt, Int32.toInt_ofInt_of_le (by omega) (by omega)]
  rw [e]; rfl)) k
theorem jr.i2lw {x : Int} (hi : m.2.2.2.2.2.2 pc = some .i2l) (k : jr A D m (pc + 1) ls (.long (Int64.ofInt (j_w x)) :: st) M Q) : jr A D m pc ls (.int (Int32.ofInt x) :: st) M Q := jr_sem hi (fun f => fxk_i2l (by unfold j_w; rw [Int64.ofInt_int32ToInt]; rfl)) k
theorem jr.l2i {x : Int} (hi : m.2.2.2.2.2.2 pc = some .l2i) (k : jr A D m (pc + 1) ls (.int (Int32.ofInt x) :: st) M Q) : jr A D m pc ls (.long (Int64.ofInt x) :: st) M Q := jr_sem hi (fun f => fxk_l2i (by rw [← Int64.toInt32_ofInt]; rfl)) k
theorem jr.lcmp {x y : Int} (hi : m.2.2.2.2.2.2 pc = some .lcmp) (k : jr A D m (pc + 1) ls (.int (Int32.ofInt (jl_cmp x y)) :: st) M Q) : jr A D m pc ls (.long (Int64.ofInt y) :: .long (Int64.ofInt x) :: st) M Q := jr_sem hi (fun f => fxk_lcmp (by unfold jl_cmp; rw [Int32.ofInt_toInt]; rfl)) k
theorem jl_cmp_lt {x y : Int} (hx : -9223372036854775808 ≤ x ∧ x ≤ 9223372036854775807) (hy : -9223372036854775808 ≤ y ∧ y ≤ 9223372036854775807) : jl_cmp x y = if y < x then 1 else if x = y then 0 else -1 := by
  unfold jl_cmp lg_cmp
  have e1 : (Int64.ofInt x).toInt = x := Int64.toInt_ofInt_of_le (by omega) (by omega)
  have e2 : (Int64.ofInt y).toInt = y := Int64.toInt_ofInt_of_le (by omega) (by omega)
  simp only [gt_iff_lt, Int64.lt_iff_toInt_lt, ← Int64.toInt_inj, e1, e2]
  split
  · rfl
  · split <;> rfl
theorem jr.i2b {x : Int} (hi : m.2.2.2.2.2.2 pc = some .i2b) (k : jr A D m (pc + 1) ls (.int (Int32.ofInt (j_b x)) :: st) M Q) : jr A D m pc ls (.int (Int32.ofInt x) :: st) M Q := jr_sem hi (fun f => fxk_i2b (by unfold j_b; rw [Int32.ofInt_toInt]; rfl)) k
theorem jr.i2s {x : Int} (hi : m.2.2.2.2.2.2 pc = some .i2s) (k : jr A D m (pc + 1) ls (.int (Int32.ofInt (j_s x)) :: st) M Q) : jr A D m pc ls (.int (Int32.ofInt x) :: st) M Q := jr_sem hi (fun f => fxk_i2s (by unfold j_s; rw [Int32.ofInt_toInt]; rfl)) k
theorem jr.i2c {x : Int} (hi : m.2.2.2.2.2.2 pc = some .i2c) (k : jr A D m (pc + 1) ls (.int (Int32.ofInt (j_c x)) :: st) M Q) : jr A D m pc ls (.int (Int32.ofInt x) :: st) M Q := jr_sem hi (fun f => fxk_i2c (by unfold j_c; rw [Int32.ofInt_toInt]; rfl)) k
theorem jr.goto {t : Nat} {off : Int} (hi : m.2.2.2.2.2.2 pc = some (.goto off)) (ht : ix_tg pc off = some t) (k : jr A D m t ls st M Q) : jr A D m pc ls st M Q := jr_sem hi (fun f => fxk_goto (by unfold fx_goto; rw [ht])) k
theorem jr.pop {v : Value} (hi : m.2.2.2.2.2.2 pc = some .pop) (hv : v.category = 1) (k : jr A D m (pc + 1) ls st M Q) : jr A D m pc ls (v :: st) M Q := jr_sem hi (fun f => fxk_pop (by unfold fx_pop; simp only [if_pos hv])) k
theorem jr.dup {v : Value} (hi : m.2.2.2.2.2.2 pc = some .dup) (hv : v.category = 1) (k : jr A D m (pc + 1) ls (v :: v :: st) M Q) : jr A D m pc ls (v :: st) M Q := jr_sem hi (fun f => fxk_dup (by unfold fx_dup; simp only [if_pos hv])) k
theorem jr.dup2 {v w : Value} (hi : m.2.2.2.2.2.2 pc = some .dup2) (hv : v.category = 1 ∧ w.category = 1) (k : jr A D m (pc + 1) ls (v :: w :: v :: w :: st) M Q) : jr A D m pc ls (v :: w :: st) M Q := jr_sem hi (fun f => fxk_dup2 (by unfold fx_dup2; simp only [if_pos hv])) k
theorem j_cb {x y : Int} (hx : -2147483648 ≤ x ∧ x ≤ 2147483647) (hy : -2147483648 ≤ y ∧ y ≤ 2147483647) : (Int32.ofInt x = Int32.ofInt y ↔ x = y) ∧ (Int32.ofInt x < Int32.ofInt y ↔ x < y) ∧ (Int32.ofInt x ≤ Int32.ofInt y ↔ x ≤ y) := by
  have e1 : (Int32.ofInt x).toInt = x := Int32.toInt_ofInt_of_le (by omega) (by omega)
  have e2 : (Int32.ofInt y).toInt = y := Int32.toInt_ofInt_of_le (by omega) (by omega)
  refine ⟨?_, ?_, ?_⟩
  · rw [← Int32.toInt_inj, e1, e2]
  · rw [Int32.lt_iff_toInt_lt, e1, e2]
  · rw [Int32.le_iff_toInt_le, e1, e2]
theorem j_cb_eq {x y : Int} (hx : -2147483648 ≤ x ∧ x ≤ 2147483647) (hy : -2147483648 ≤ y ∧ y ≤ 2147483647) : ix_cb .eq (Int32.ofInt x) (Int32.ofInt y) = decide (x = y) := by
  unfold ix_cb
  exact decide_eq_decide.mpr (j_cb hx hy).1
theorem jr.icmp_eq {t : Nat} {off x y : Int} (hi : m.2.2.2.2.2.2 pc = some (.if_icmp .eq off)) (ht : ix_tg pc off = some t) (hx : -2147483648 ≤ x ∧ x ≤ 2147483647) (hy : -2147483648 ≤ y ∧ y ≤ 2147483647) (k1 : x = y → jr A D m t ls st M Q) (k2 : ¬ (x = y) → jr A D m (pc + 3) ls st M Q) : jr A D m pc ls (.int (Int32.ofInt y) :: .int (Int32.ofInt x) :: st) M Q := by
  by_cases h : x = y
  · exact jr_sem hi (fun f => fxk_icmp (by unfold fx_icmp; simp only [ht, j_cb_eq hx hy, decide_eq_true h, cond_true])) (k1 h)
  · exact jr_sem hi (fun f => fxk_icmp (by unfold fx_icmp; simp only [ht, j_cb_eq hx hy, decide_eq_false h, cond_false])) (k2 h)
theorem jr.if_eq {t : Nat} {off x : Int} (hi : m.2.2.2.2.2.2 pc = some (.ifCond .eq off)) (ht : ix_tg pc off = some t) (hx : -2147483648 ≤ x ∧ x ≤ 2147483647) (k1 : x = 0 → jr A D m t ls st M Q) (k2 : ¬ (x = 0) → jr A D m (pc + 3) ls st M Q) : jr A D m pc ls (.int (Int32.ofInt x) :: st) M Q := by
  have hy : (-2147483648 : Int) ≤ 0 ∧ (0 : Int) ≤ 2147483647 := by omega
  have e : ix_cb .eq (Int32.ofInt x) 0 = decide (x = 0) := j_cb_eq hx hy
  by_cases h : x = 0
  · exact jr_sem hi (fun f => fxk_if (by unfold fx_if; simp only [ht, e, decide_eq_true h, cond_true])) (k1 h)
  · exact jr_sem hi (fun f => fxk_if (by unfold fx_if; simp only [ht, e, decide_eq_false h, cond_false])) (k2 h)
theorem j_cb_ne {x y : Int} (hx : -2147483648 ≤ x ∧ x ≤ 2147483647) (hy : -2147483648 ≤ y ∧ y ≤ 2147483647) : ix_cb .ne (Int32.ofInt x) (Int32.ofInt y) = decide (¬ x = y) := by
  unfold ix_cb
  exact decide_eq_decide.mpr (not_congr (j_cb hx hy).1)
theorem jr.icmp_ne {t : Nat} {off x y : Int} (hi : m.2.2.2.2.2.2 pc = some (.if_icmp .ne off)) (ht : ix_tg pc off = some t) (hx : -2147483648 ≤ x ∧ x ≤ 2147483647) (hy : -2147483648 ≤ y ∧ y ≤ 2147483647) (k1 : ¬ x = y → jr A D m t ls st M Q) (k2 : ¬ (¬ x = y) → jr A D m (pc + 3) ls st M Q) : jr A D m pc ls (.int (Int32.ofInt y) :: .int (Int32.ofInt x) :: st) M Q := by
  by_cases h : ¬ x = y
  · exact jr_sem hi (fun f => fxk_icmp (by unfold fx_icmp; simp only [ht, j_cb_ne hx hy, decide_eq_true h, cond_true])) (k1 h)
  · exact jr_sem hi (fun f => fxk_icmp (by unfold fx_icmp; simp only [ht, j_cb_ne hx hy, decide_eq_false h, cond_false])) (k2 h)
theorem jr.if_ne {t : Nat} {off x : Int} (hi : m.2.2.2.2.2.2 pc = some (.ifCond .ne off)) (ht : ix_tg pc off = some t) (hx : -2147483648 ≤ x ∧ x ≤ 2147483647) (k1 : ¬ x = 0 → jr A D m t ls st M Q) (k2 : ¬ (¬ x = 0) → jr A D m (pc + 3) ls st M Q) : jr A D m pc ls (.int (Int32.ofInt x) :: st) M Q := by
  have hy : (-2147483648 : Int) ≤ 0 ∧ (0 : Int) ≤ 2147483647 := by omega
  have e : ix_cb .ne (Int32.ofInt x) 0 = decide (¬ x = 0) := j_cb_ne hx hy
  by_cases h : ¬ x = 0
  · exact jr_sem hi (fun f => fxk_if (by unfold fx_if; simp only [ht, e, decide_eq_true h, cond_true])) (k1 h)
  · exact jr_sem hi (fun f => fxk_if (by unfold fx_if; simp only [ht, e, decide_eq_false h, cond_false])) (k2 h)
theorem j_cb_lt {x y : Int} (hx : -2147483648 ≤ x ∧ x ≤ 2147483647) (hy : -2147483648 ≤ y ∧ y ≤ 2147483647) : ix_cb .lt (Int32.ofInt x) (Int32.ofInt y) = decide (x < y) := by
  unfold ix_cb
  exact decide_eq_decide.mpr (j_cb hx hy).2.1
theorem jr.icmp_lt {t : Nat} {off x y : Int} (hi : m.2.2.2.2.2.2 pc = some (.if_icmp .lt off)) (ht : ix_tg pc off = some t) (hx : -2147483648 ≤ x ∧ x ≤ 2147483647) (hy : -2147483648 ≤ y ∧ y ≤ 2147483647) (k1 : x < y → jr A D m t ls st M Q) (k2 : ¬ (x < y) → jr A D m (pc + 3) ls st M Q) : jr A D m pc ls (.int (Int32.ofInt y) :: .int (Int32.ofInt x) :: st) M Q := by
  by_cases h : x < y
  · exact jr_sem hi (fun f => fxk_icmp (by unfold fx_icmp; simp only [ht, j_cb_lt hx hy, decide_eq_true h, cond_true])) (k1 h)
  · exact jr_sem hi (fun f => fxk_icmp (by unfold fx_icmp; simp only [ht, j_cb_lt hx hy, decide_eq_false h, cond_false])) (k2 h)
theorem j_i0 : (0 : Int32) = Int32.ofInt 0 := by decide +kernel
theorem jr.if_lt {t : Nat} {off x : Int} (hi : m.2.2.2.2.2.2 pc = some (.ifCond .lt off)) (ht : ix_tg pc off = some t) (hx : -2147483648 ≤ x ∧ x ≤ 2147483647) (k1 : x < 0 → jr A D m t ls st M Q) (k2 : ¬ (x < 0) → jr A D m (pc + 3) ls st M Q) : jr A D m pc ls (.int (Int32.ofInt x) :: st) M Q := by
  have hy : (-2147483648 : Int) ≤ 0 ∧ (0 : Int) ≤ 2147483647 := by omega
  have e : ix_cb .lt (Int32.ofInt x) 0 = decide (x < 0) := by rw [j_i0]; exact j_cb_lt hx hy
  by_cases h : x < 0
  · exact jr_sem hi (fun f => fxk_if (by unfold fx_if; simp only [ht, e, decide_eq_true h, cond_true])) (k1 h)
  · exact jr_sem hi (fun f => fxk_if (by unfold fx_if; simp only [ht, e, decide_eq_false h, cond_false])) (k2 h)
theorem j_cb_ge {x y : Int} (hx : -2147483648 ≤ x ∧ x ≤ 2147483647) (hy : -2147483648 ≤ y ∧ y ≤ 2147483647) : ix_cb .ge (Int32.ofInt x) (Int32.ofInt y) = decide (y ≤ x) := by
  unfold ix_cb
  exact decide_eq_decide.mpr (j_cb hy hx).2.2
theorem jr.icmp_ge {t : Nat} {off x y : Int} (hi : m.2.2.2.2.2.2 pc = some (.if_icmp .ge off)) (ht : ix_tg pc off = some t) (hx : -2147483648 ≤ x ∧ x ≤ 2147483647) (hy : -2147483648 ≤ y ∧ y ≤ 2147483647) (k1 : y ≤ x → jr A D m t ls st M Q) (k2 : ¬ (y ≤ x) → jr A D m (pc + 3) ls st M Q) : jr A D m pc ls (.int (Int32.ofInt y) :: .int (Int32.ofInt x) :: st) M Q := by
  by_cases h : y ≤ x
  · exact jr_sem hi (fun f => fxk_icmp (by unfold fx_icmp; simp only [ht, j_cb_ge hx hy, decide_eq_true h, cond_true])) (k1 h)
  · exact jr_sem hi (fun f => fxk_icmp (by unfold fx_icmp; simp only [ht, j_cb_ge hx hy, decide_eq_false h, cond_false])) (k2 h)
theorem jr.if_ge {t : Nat} {off x : Int} (hi : m.2.2.2.2.2.2 pc = some (.ifCond .ge off)) (ht : ix_tg pc off = some t) (hx : -2147483648 ≤ x ∧ x ≤ 2147483647) (k1 : 0 ≤ x → jr A D m t ls st M Q) (k2 : ¬ (0 ≤ x) → jr A D m (pc + 3) ls st M Q) : jr A D m pc ls (.int (Int32.ofInt x) :: st) M Q := by
  have hy : (-2147483648 : Int) ≤ 0 ∧ (0 : Int) ≤ 2147483647 := by omega
  have e : ix_cb .ge (Int32.ofInt x) 0 = decide (0 ≤ x) := by rw [j_i0]; exact j_cb_ge hx hy
  by_cases h : 0 ≤ x
  · exact jr_sem hi (fun f => fxk_if (by unfold fx_if; simp only [ht, e, decide_eq_true h, cond_true])) (k1 h)
  · exact jr_sem hi (fun f => fxk_if (by unfold fx_if; simp only [ht, e, decide_eq_false h, cond_false])) (k2 h)
theorem j_cb_gt {x y : Int} (hx : -2147483648 ≤ x ∧ x ≤ 2147483647) (hy : -2147483648 ≤ y ∧ y ≤ 2147483647) : ix_cb .gt (Int32.ofInt x) (Int32.ofInt y) = decide (y < x) := by
  unfold ix_cb
  exact decide_eq_decide.mpr (j_cb hy hx).2.1
theorem jr.icmp_gt {t : Nat} {off x y : Int} (hi : m.2.2.2.2.2.2 pc = some (.if_icmp .gt off)) (ht : ix_tg pc off = some t) (hx : -2147483648 ≤ x ∧ x ≤ 2147483647) (hy : -2147483648 ≤ y ∧ y ≤ 2147483647) (k1 : y < x → jr A D m t ls st M Q) (k2 : ¬ (y < x) → jr A D m (pc + 3) ls st M Q) : jr A D m pc ls (.int (Int32.ofInt y) :: .int (Int32.ofInt x) :: st) M Q := by
  by_cases h : y < x
  · exact jr_sem hi (fun f => fxk_icmp (by unfold fx_icmp; simp only [ht, j_cb_gt hx hy, decide_eq_true h, cond_true])) (k1 h)
  · exact jr_sem hi (fun f => fxk_icmp (by unfold fx_icmp; simp only [ht, j_cb_gt hx hy, decide_eq_false h, cond_false])) (k2 h)
theorem jr.if_gt {t : Nat} {off x : Int} (hi : m.2.2.2.2.2.2 pc = some (.ifCond .gt off)) (ht : ix_tg pc off = some t) (hx : -2147483648 ≤ x ∧ x ≤ 2147483647) (k1 : 0 < x → jr A D m t ls st M Q) (k2 : ¬ (0 < x) → jr A D m (pc + 3) ls st M Q) : jr A D m pc ls (.int (Int32.ofInt x) :: st) M Q := by
  have hy : (-2147483648 : Int) ≤ 0 ∧ (0 : Int) ≤ 2147483647 := by omega
  have e : ix_cb .gt (Int32.ofInt x) 0 = decide (0 < x) := by rw [j_i0]; exact j_cb_gt hx hy
  by_cases h : 0 < x
  · exact jr_sem hi (fun f => fxk_if (by unfold fx_if; simp only [ht, e, decide_eq_true h, cond_true])) (k1 h)
  · exact jr_sem hi (fun f => fxk_if (by unfold fx_if; simp only [ht, e, decide_eq_false h, cond_false])) (k2 h)
theorem j_cb_le {x y : Int} (hx : -2147483648 ≤ x ∧ x ≤ 2147483647) (hy : -2147483648 ≤ y ∧ y ≤ 2147483647) : ix_cb .le (Int32.ofInt x) (Int32.ofInt y) = decide (x ≤ y) := by
  unfold ix_cb
  exact decide_eq_decide.mpr (j_cb hx hy).2.2
theorem jr.icmp_le {t : Nat} {off x y : Int} (hi : m.2.2.2.2.2.2 pc = some (.if_icmp .le off)) (ht : ix_tg pc off = some t) (hx : -2147483648 ≤ x ∧ x ≤ 2147483647) (hy : -2147483648 ≤ y ∧ y ≤ 2147483647) (k1 : x ≤ y → jr A D m t ls st M Q) (k2 : ¬ (x ≤ y) → jr A D m (pc + 3) ls st M Q) : jr A D m pc ls (.int (Int32.ofInt y) :: .int (Int32.ofInt x) :: st) M Q := by
  by_cases h : x ≤ y
  · exact jr_sem hi (fun f => fxk_icmp (by unfold fx_icmp; simp only [ht, j_cb_le hx hy, decide_eq_true h, cond_true])) (k1 h)
  · exact jr_sem hi (fun f => fxk_icmp (by unfold fx_icmp; simp only [ht, j_cb_le hx hy, decide_eq_false h, cond_false])) (k2 h)
theorem jr.if_le {t : Nat} {off x : Int} (hi : m.2.2.2.2.2.2 pc = some (.ifCond .le off)) (ht : ix_tg pc off = some t) (hx : -2147483648 ≤ x ∧ x ≤ 2147483647) (k1 : x ≤ 0 → jr A D m t ls st M Q) (k2 : ¬ (x ≤ 0) → jr A D m (pc + 3) ls st M Q) : jr A D m pc ls (.int (Int32.ofInt x) :: st) M Q := by
  have hy : (-2147483648 : Int) ≤ 0 ∧ (0 : Int) ≤ 2147483647 := by omega
  have e : ix_cb .le (Int32.ofInt x) 0 = decide (x ≤ 0) := by rw [j_i0]; exact j_cb_le hx hy
  by_cases h : x ≤ 0
  · exact jr_sem hi (fun f => fxk_if (by unfold fx_if; simp only [ht, e, decide_eq_true h, cond_true])) (k1 h)
  · exact jr_sem hi (fun f => fxk_if (by unfold fx_if; simp only [ht, e, decide_eq_false h, cond_false])) (k2 h)
theorem jl_cmp_r {x y : Int} (hx : -9223372036854775808 ≤ x ∧ x ≤ 9223372036854775807) (hy : -9223372036854775808 ≤ y ∧ y ≤ 9223372036854775807) : (jl_cmp x y = 1 ∧ y < x) ∨ (jl_cmp x y = 0 ∧ x = y) ∨ (jl_cmp x y = -1 ∧ x < y) := by
  rw [jl_cmp_lt hx hy]
  by_cases h1 : y < x
  · rw [if_pos h1]; omega
  · rw [if_neg h1]
    by_cases h2 : x = y
    · rw [if_pos h2]; omega
    · rw [if_neg h2]; omega
theorem jr.lcmp_eq {t : Nat} {off x y : Int} (hi : m.2.2.2.2.2.2 pc = some .lcmp) (hi2 : m.2.2.2.2.2.2 (pc + 1) = some (.ifCond .eq off)) (ht : ix_tg (pc + 1) off = some t) (hx : -9223372036854775808 ≤ x ∧ x ≤ 9223372036854775807) (hy : -9223372036854775808 ≤ y ∧ y ≤ 9223372036854775807) (k1 : x = y → jr A D m t ls st M Q) (k2 : ¬ (x = y) → jr A D m (pc + 4) ls st M Q) : jr A D m pc ls (.long (Int64.ofInt y) :: .long (Int64.ofInt x) :: st) M Q := by
  refine jr.lcmp hi ?_
  have hr := jl_cmp_r hx hy
  exact jr.if_eq hi2 ht (by omega) (fun h => k1 (by omega)) (fun h => k2 (by omega))
theorem jr.lcmp_ne {t : Nat} {off x y : Int} (hi : m.2.2.2.2.2.2 pc = some .lcmp) (hi2 : m.2.2.2.2.2.2 (pc + 1) = some (.ifCond .ne off)) (ht : ix_tg (pc + 1) off = some t) (hx : -9223372036854775808 ≤ x ∧ x ≤ 9223372036854775807) (hy : -9223372036854775808 ≤ y ∧ y ≤ 9223372036854775807) (k1 : ¬ x = y → jr A D m t ls st M Q) (k2 : ¬ (¬ x = y) → jr A D m (pc + 4) ls st M Q) : jr A D m pc ls (.long (Int64.ofInt y) :: .long (Int64.ofInt x) :: st) M Q := by
  refine jr.lcmp hi ?_
  have hr := jl_cmp_r hx hy
  exact jr.if_ne hi2 ht (by omega) (fun h => k1 (by omega)) (fun h => k2 (by omega))
theorem jr.lcmp_lt {t : Nat} {off x y : Int} (hi : m.2.2.2.2.2.2 pc = some .lcmp) (hi2 : m.2.2.2.2.2.2 (pc + 1) = some (.ifCond .lt off)) (ht : ix_tg (pc + 1) off = some t) (hx : -9223372036854775808 ≤ x ∧ x ≤ 9223372036854775807) (hy : -9223372036854775808 ≤ y ∧ y ≤ 9223372036854775807) (k1 : x < y → jr A D m t ls st M Q) (k2 : ¬ (x < y) → jr A D m (pc + 4) ls st M Q) : jr A D m pc ls (.long (Int64.ofInt y) :: .long (Int64.ofInt x) :: st) M Q := by
  refine jr.lcmp hi ?_
  have hr := jl_cmp_r hx hy
  exact jr.if_lt hi2 ht (by omega) (fun h => k1 (by omega)) (fun h => k2 (by omega))
theorem jr.lcmp_ge {t : Nat} {off x y : Int} (hi : m.2.2.2.2.2.2 pc = some .lcmp) (hi2 : m.2.2.2.2.2.2 (pc + 1) = some (.ifCond .ge off)) (ht : ix_tg (pc + 1) off = some t) (hx : -9223372036854775808 ≤ x ∧ x ≤ 9223372036854775807) (hy : -9223372036854775808 ≤ y ∧ y ≤ 9223372036854775807) (k1 : y ≤ x → jr A D m t ls st M Q) (k2 : ¬ (y ≤ x) → jr A D m (pc + 4) ls st M Q) : jr A D m pc ls (.long (Int64.ofInt y) :: .long (Int64.ofInt x) :: st) M Q := by
  refine jr.lcmp hi ?_
  have hr := jl_cmp_r hx hy
  exact jr.if_ge hi2 ht (by omega) (fun h => k1 (by omega)) (fun h => k2 (by omega))
theorem jr.lcmp_gt {t : Nat} {off x y : Int} (hi : m.2.2.2.2.2.2 pc = some .lcmp) (hi2 : m.2.2.2.2.2.2 (pc + 1) = some (.ifCond .gt off)) (ht : ix_tg (pc + 1) off = some t) (hx : -9223372036854775808 ≤ x ∧ x ≤ 9223372036854775807) (hy : -9223372036854775808 ≤ y ∧ y ≤ 9223372036854775807) (k1 : y < x → jr A D m t ls st M Q) (k2 : ¬ (y < x) → jr A D m (pc + 4) ls st M Q) : jr A D m pc ls (.long (Int64.ofInt y) :: .long (Int64.ofInt x) :: st) M Q := by
  refine jr.lcmp hi ?_
  have hr := jl_cmp_r hx hy
  exact jr.if_gt hi2 ht (by omega) (fun h => k1 (by omega)) (fun h => k2 (by omega))
theorem jr.lcmp_le {t : Nat} {off x y : Int} (hi : m.2.2.2.2.2.2 pc = some .lcmp) (hi2 : m.2.2.2.2.2.2 (pc + 1) = some (.ifCond .le off)) (ht : ix_tg (pc + 1) off = some t) (hx : -9223372036854775808 ≤ x ∧ x ≤ 9223372036854775807) (hy : -9223372036854775808 ≤ y ∧ y ≤ 9223372036854775807) (k1 : x ≤ y → jr A D m t ls st M Q) (k2 : ¬ (x ≤ y) → jr A D m (pc + 4) ls st M Q) : jr A D m pc ls (.long (Int64.ofInt y) :: .long (Int64.ofInt x) :: st) M Q := by
  refine jr.lcmp hi ?_
  have hr := jl_cmp_r hx hy
  exact jr.if_le hi2 ht (by omega) (fun h => k1 (by omega)) (fun h => k2 (by omega))
theorem jr.getf {idx a c n j : Nat} {i x : Int} {ty : FieldType} {v : Value} (hi : m.2.2.2.2.2.2 pc = some (.getfield idx)) (hf : ix_tF (xT A) m.1 idx = some (c, j)) (ha : a < xNc) (hs : xsh a = (100 + c, n)) (hj : j < n) (hij : ((j : Nat) : Int) = i) (hty : ((xT_D c).2 j).1 = ty) (hx : M a i = x) (hv : jval a j ty x = v) (k : jr A D m (pc + 3) ls (v :: st) M Q) : jr A D m pc ls (.ref a :: st) M Q := jr_sem hi (fun f => fxk_getfield (by
  unfold fx_getfield
  simp only [hf, jobj ha hs, if_true, List.getElem?_map, List.getElem?_range hj, Option.map_some, hij, hx, hty, hv])) k
theorem jr.putf {idx a c n j : Nat} {i x : Int} {ty : FieldType} {v : Value} (hi : m.2.2.2.2.2.2 pc = some (.putfield idx)) (hf : ix_tF (xT A) m.1 idx = some (c, j)) (ha : a < xNc) (hs : xsh a = (100 + c, n)) (hj : j < n) (hij : ((j : Nat) : Int) = i) (hty : ((xT_D c).2 j) = (ty, false)) (hv : jval a j ty x = v) (hn : narrow ty v = v) (hfi : fits ty v = true) (k : jr A D m (pc + 3) ls st (ju M a i x) Q) : jr A D m pc ls (v :: .ref a :: st) M Q := jr_sem hi (fun f => fxk_putfield (by
  unfold fx_putfield
  have e1 : (ix_tD (xT A) c).2 j = (ty, false) := hty
  simp only [hf, jobj ha hs, e1]
  rw [if_pos ⟨trivial, by simp [hj], hn, hfi, Or.inl trivial⟩]
  rw [jH_put M a i x _ (by
    rw [hs, ju_row]
    have h9 := jcell_obj a c n (fun k => if k = i then x else M a k)
    rw [h9]
    congr 2
    apply List.ext_getElem?
    intro q
    by_cases hq : q = j
    · subst hq
      rw [List.getElem?_set_self (by simp [hj]), List.getElem?_map, List.getElem?_range hj]
      simp only [Option.map_some, hij, if_true, hty, hv]
    · rw [List.getElem?_set_ne (fun z => hq z.symm), List.getElem?_map, List.getElem?_map]
      by_cases hqn : q < n
      · rw [List.getElem?_range hqn]
        simp only [Option.map_some]
        rw [if_neg (by omega)]
      · rw [List.getElem?_eq_none (by simp; omega)]
        rfl)])) k
theorem jr.iald {a n : Nat} {i x : Int} (hi : m.2.2.2.2.2.2 pc = some .iaload) (ha : a < xNc) (hs : xsh a = (0, n)) (hn : n ≤ 2000000) (h0 : 0 ≤ i) (h1 : i < (n : Nat)) (hx : M a i = x) (k : jr A D m (pc + 1) ls (.int (Int32.ofInt x) :: st) M Q) : jr A D m pc ls (.int (Int32.ofInt i) :: .ref a :: st) M Q := jr_sem hi (fun f => fxk_iaload (by
  unfold fx_iaload
  obtain ⟨q1, q2⟩ := jin h0 h1 hn
  simp only [jarr0 ha hs]
  rw [if_neg q1, q2, Int.toNat_of_nonneg h0, hx])) k
theorem jr.lald {a n : Nat} {i x : Int} (hi : m.2.2.2.2.2.2 pc = some .laload) (ha : a < xNc) (hs : xsh a = (1, n)) (hn : n ≤ 2000000) (h0 : 0 ≤ i) (h1 : i < (n : Nat)) (hx : M a i = x) (k : jr A D m (pc + 1) ls (.long (Int64.ofInt x) :: st) M Q) : jr A D m pc ls (.int (Int32.ofInt i) :: .ref a :: st) M Q := jr_sem hi (fun f => fxk_laload (by
  unfold fx_laload
  obtain ⟨q1, q2⟩ := jin h0 h1 hn
  simp only [jarr1 ha hs]
  rw [if_neg q1, q2, Int.toNat_of_nonneg h0, hx])) k
theorem jr.zald {a n : Nat} {i x : Int} (hi : m.2.2.2.2.2.2 pc = some .baload) (ha : a < xNc) (hs : xsh a = (2, n)) (hn : n ≤ 2000000) (h0 : 0 ≤ i) (h1 : i < (n : Nat)) (hx : M a i = x) (k : jr A D m (pc + 1) ls (.int (Int32.ofInt x) :: st) M Q) : jr A D m pc ls (.int (Int32.ofInt i) :: .ref a :: st) M Q := jr_sem hi (fun f => fxk_baload (by
  unfold fx_baload
  obtain ⟨q1, q2⟩ := jin h0 h1 hn
  simp only [jarr2 ha hs]
  rw [if_neg q1, q2, Int.toNat_of_nonneg h0, hx])) k
theorem jr.iast {a n : Nat} {i x : Int} (hi : m.2.2.2.2.2.2 pc = some .iastore) (ha : a < xNc) (hs : xsh a = (0, n)) (hn : n ≤ 2000000) (h0 : 0 ≤ i) (h1 : i < (n : Nat)) (k : jr A D m (pc + 1) ls st (ju M a i x) Q) : jr A D m pc ls (.int (Int32.ofInt x) :: .int (Int32.ofInt i) :: .ref a :: st) M Q := jr_sem hi (fun f => fxk_iastore (by
  unfold fx_iastore
  obtain ⟨q1, q2⟩ := jin h0 h1 hn
  simp only [jarr0 ha hs]
  rw [if_neg q1, q2]
  rw [jH_put M a i x _ (by rw [hs, ju_row, jupd (M a) h0 x]; rfl)])) k
theorem jr.last {a n : Nat} {i x : Int} (hi : m.2.2.2.2.2.2 pc = some .lastore) (ha : a < xNc) (hs : xsh a = (1, n)) (hn : n ≤ 2000000) (h0 : 0 ≤ i) (h1 : i < (n : Nat)) (k : jr A D m (pc + 1) ls st (ju M a i x) Q) : jr A D m pc ls (.long (Int64.ofInt x) :: .int (Int32.ofInt i) :: .ref a :: st) M Q := jr_sem hi (fun f => fxk_lastore (by
  unfold fx_lastore
  obtain ⟨q1, q2⟩ := jin h0 h1 hn
  simp only [jarr1 ha hs]
  rw [if_neg q1, q2]
  rw [jH_put M a i x _ (by rw [hs, ju_row, jupdL (M a) h0 x]; rfl)])) k
theorem jr.aald {a t n c : Nat} {i : Int} (hi : m.2.2.2.2.2.2 pc = some .aaload) (ha : a < xNc) (hs : xsh a = (t, n)) (h3 : 3 ≤ t) (h9 : t < 100) (he : (ix_tE (xT A) t).isSome = true) (hn : n ≤ 2000000) (h0 : 0 ≤ i) (h1 : i < (n : Nat)) (hx : xel a i.toNat = some c) (k : jr A D m (pc + 1) ls (.ref c :: st) M Q) : jr A D m pc ls (.int (Int32.ofInt i) :: .ref a :: st) M Q := jr_sem hi (fun f => fxk_aaload (by
  unfold fx_aaload
  obtain ⟨q1, q2⟩ := jin h0 h1 hn
  simp only [jarrq ha hs h3 h9]
  rw [if_pos ⟨he, q1⟩, q2, hx]
  rfl)) k
theorem jr.zast {a n : Nat} {i x : Int} (hi : m.2.2.2.2.2.2 pc = some .bastore) (ha : a < xNc) (hs : xsh a = (2, n)) (hn : n ≤ 2000000) (h0 : 0 ≤ i) (h1 : i < (n : Nat)) (hb : vp_nar .boolean (Int32.ofInt x) = Int32.ofInt x) (k : jr A D m (pc + 1) ls st (ju M a i x) Q) : jr A D m pc ls (.int (Int32.ofInt x) :: .int (Int32.ofInt i) :: .ref a :: st) M Q := jr_sem hi (fun f => fxk_bastore (by
  unfold fx_bastore
  obtain ⟨q1, q2⟩ := jin h0 h1 hn
  simp only [jarr2 ha hs]
  rw [if_neg q1, q2, hb]
  rw [jH_put M a i x _ (by rw [hs, ju_row, jupd (M a) h0 x]; rfl)])) k
theorem jr.ireturn {ty : FieldType} {x : Int} (hi : m.2.2.2.2.2.2 pc = some .ireturn) (hr : m.2.2.2.2.1 = some ty) (hn : narrow ty (.int (Int32.ofInt x)) = .int (Int32.ofInt x)) (q : Q (some (.int (Int32.ofInt x))) M) : jr A D m pc ls [.int (Int32.ofInt x)] M Q := jr_ret hi (by unfold ix_ret; simp only [hr, if_pos hn]) q
theorem jr.lreturn {x : Int} (hi : m.2.2.2.2.2.2 pc = some .lreturn) (hr : m.2.2.2.2.1 = some .long) (q : Q (some (.long (Int64.ofInt x))) M) : jr A D m pc ls [.long (Int64.ofInt x)] M Q := jr_ret hi (by unfold ix_ret; simp only [if_pos hr]) q
theorem jr.vreturn (hi : m.2.2.2.2.2.2 pc = some .return_) (hr : m.2.2.2.2.1 = none) (q : Q none M) : jr A D m pc ls [] M Q := jr_ret hi (by unfold ix_ret; simp only [hr]) q
end JI
end
section
/-! ===== switches ===== -/
section JS
variable {A : Nat → Option (Nat × (Nat → Int32))} {D : Nat} {m : ix_M} {pc t : Nat} {ls : ix_L} {st : List Value} {M : jm} {Q : Option Value → jm → Prop}
theorem jr_br {i : Instr} {v : Value} (hi : m.2.2.2.2.2.2 pc = some i) (hk : (∃ a b c d, i = .tableswitch a b c d) ∨ ∃ a b, i = .lookupswitch a b) (hb : ix_br i pc (v :: st) = some (t, st)) (k : jr A D m t ls st M Q) : jr A D m pc ls (v :: st) M Q := by
  refine jr_sem hi (fun f => ?_) k
  rcases hk with ⟨a, b, c, d, rfl⟩ | ⟨a, b, rfl⟩
  · simp only [ix_sem, ix_ret, ix_alu, ix_loc, ix_hp, hb]
  · simp only [ix_sem, ix_ret, ix_alu, ix_loc, ix_hp, hb]
theorem jr.tsw {dflt lo hi_ : Int} {offs : Array Int} {v : Value} (hi : m.2.2.2.2.2.2 pc = some (.tableswitch dflt lo hi_ offs)) (hb : ix_br (.tableswitch dflt lo hi_ offs) pc (v :: st) = some (t, st)) (k : jr A D m t ls st M Q) : jr A D m pc ls (v :: st) M Q := jr_br hi (Or.inl ⟨_, _, _, _, rfl⟩) hb k
theorem jr.tsw_d {dflt lo hi_ x : Int} {offs : Array Int} (hi : m.2.2.2.2.2.2 pc = some (.tableswitch dflt lo hi_ offs)) (hx : -2147483648 ≤ x ∧ x ≤ 2147483647) (h : x < lo ∨ hi_ < x) (ht : ix_tg pc dflt = some t) (k : jr A D m t ls st M Q) : jr A D m pc ls (.int (Int32.ofInt x) :: st) M Q := by
  refine jr.tsw hi ?_ k
  have e : (Int32.ofInt x).toInt = x := Int32.toInt_ofInt_of_le (by omega) (by omega)
  simp only [ix_br, e, if_pos h, ht]
theorem jr.lsw {dflt : Int} {ps : Array (Int × Int)} {v : Value} (hi : m.2.2.2.2.2.2 pc = some (.lookupswitch dflt ps)) (hb : ix_br (.lookupswitch dflt ps) pc (v :: st) = some (t, st)) (k : jr A D m t ls st M Q) : jr A D m pc ls (v :: st) M Q := jr_br hi (Or.inr ⟨_, _, rfl⟩) hb k
theorem j_off_no (dflt x : Int) : ∀ (ps : List (Int × Int)), (∀ q ∈ ps, q.1 ≠ x) → Op.lookupswitch.offset ps dflt x = dflt
  | [], _ => by simp [Op.lookupswitch.offset]
  | q :: r, h => by
    have h1 := h q List.mem_cons_self
    have h2 := j_off_no dflt x r (fun p hp => h p (List.mem_cons_of_mem _ hp))
    simp only [Op.lookupswitch.offset] at h2 ⊢
    simp [List.find?_cons, h1, h2]
    try exact h2
theorem jr.lsw_d {dflt x : Int} {ps : Array (Int × Int)} (hi : m.2.2.2.2.2.2 pc = some (.lookupswitch dflt ps)) (hx : -2147483648 ≤ x ∧ x ≤ 2147483647) (hs : (ps.toList.zip (ps.toList.drop 1)).all (fun (a, next) => a.1 < next.1) = true) (h : ∀ q ∈ ps.toList, q.1 ≠ x) (ht : ix_tg pc dflt = some t) (k : jr A D m t ls st M Q) : jr A D m pc ls (.int (Int32.ofInt x) :: st) M Q := by
  refine jr.lsw hi ?_ k
  have e : (Int32.ofInt x).toInt = x := Int32.toInt_ofInt_of_le (by omega) (by omega)
  simp only [ix_br, e, if_pos hs, j_off_no dflt x _ h, ht]
end JS
section JS2
variable {A : Nat → Option (Nat × (Nat → Int32))} {D : Nat} {m : ix_M} {pc t : Nat} {ls : ix_L} {st : List Value} {M : jm} {Q : Option Value → jm → Prop}
theorem jr.tsw_k {dflt lo hi_ x : Int} {offs : Array Int} (c : Int) (hi : m.2.2.2.2.2.2 pc = some (.tableswitch dflt lo hi_ offs)) (h : x = c) (hb : ix_br (.tableswitch dflt lo hi_ offs) pc (.int (Int32.ofInt c) :: st) = some (t, st)) (k : jr A D m t ls st M Q) : jr A D m pc ls (.int (Int32.ofInt x) :: st) M Q := by
  subst h
  exact jr.tsw hi hb k
theorem jr.lsw_k {dflt x : Int} {ps : Array (Int × Int)} (c : Int) (hi : m.2.2.2.2.2.2 pc = some (.lookupswitch dflt ps)) (h : x = c) (hb : ix_br (.lookupswitch dflt ps) pc (.int (Int32.ofInt c) :: st) = some (t, st)) (k : jr A D m t ls st M Q) : jr A D m pc ls (.int (Int32.ofInt x) :: st) M Q := by
  subst h
  exact jr.lsw hi hb k
end JS2
end
section
/-! ===== bits: what the payloads of &, |, shifts are ===== -/
theorem jb_tn (x : Int) : (Int32.ofInt x).toBitVec.toNat = (x % 4294967296).toNat := by
  show (BitVec.ofInt 32 x).toNat = _
  rw [BitVec.toNat_ofInt]
  rfl
theorem jbl_tn (x : Int) : (Int64.ofInt x).toBitVec.toNat = (x % 18446744073709551616).toNat := by
  show (BitVec.ofInt 64 x).toNat = _
  rw [BitVec.toNat_ofInt]
  rfl
theorem jb_ti (z : Int32) : z.toInt = if 2 * z.toBitVec.toNat < 4294967296 then (z.toBitVec.toNat : Int) else (z.toBitVec.toNat : Int) - 4294967296 := BitVec.toInt_eq_toNat_cond _
theorem jbl_ti (z : Int64) : z.toInt = if 2 * z.toBitVec.toNat < 18446744073709551616 then (z.toBitVec.toNat : Int) else (z.toBitVec.toNat : Int) - 18446744073709551616 := BitVec.toInt_eq_toNat_cond _
theorem jb_any (z : Int32) : -2147483648 ≤ z.toInt ∧ z.toInt ≤ 2147483647 := by
  have h := z.toBitVec.isLt
  rw [jb_ti]
  split <;> omega
theorem jbl_any (z : Int64) : -9223372036854775808 ≤ z.toInt ∧ z.toInt ≤ 9223372036854775807 := by
  have h := z.toBitVec.isLt
  rw [jbl_ti]
  split <;> omega
theorem j_and_le {x m : Int} (hm : 0 ≤ m ∧ m ≤ 2147483647) : 0 ≤ j_and x m ∧ j_and x m ≤ m := by
  unfold j_and
  have hN : (Int32.ofInt x &&& Int32.ofInt m).toBitVec.toNat ≤ m.toNat := by
    rw [Int32.toBitVec_and, BitVec.toNat_and, jb_tn m, Int.emod_eq_of_lt (by omega) (by omega)]
    exact Nat.and_le_right
  rw [jb_ti]
  split <;> omega
theorem jl_and_le {x m : Int} (hm : 0 ≤ m ∧ m ≤ 9223372036854775807) : 0 ≤ jl_and x m ∧ jl_and x m ≤ m := by
  unfold jl_and
  have hN : (Int64.ofInt x &&& Int64.ofInt m).toBitVec.toNat ≤ m.toNat := by
    rw [Int64.toBitVec_and, BitVec.toNat_and, jbl_tn m, Int.emod_eq_of_lt (by omega) (by omega)]
    exact Nat.and_le_right
  rw [jbl_ti]
  split <;> omega
theorem j_or_lt {x y : Int} (k : Nat) (hk : k ≤ 31) (hx : 0 ≤ x ∧ x < (2 ^ k : Nat)) (hy : 0 ≤ y ∧ y < (2 ^ k : Nat)) : 0 ≤ j_or x y ∧ j_or x y < (2 ^ k : Nat) := by
  have hp : 2 ^ k ≤ 2 ^ 31 := Nat.pow_le_pow_right (by decide) hk
  have hp2 : 2 ^ 31 = 2147483648 := rfl
  unfold j_or
  have hN : (Int32.ofInt x ||| Int32.ofInt y).toBitVec.toNat < 2 ^ k := by
    rw [Int32.toBitVec_or, BitVec.toNat_or, jb_tn x, jb_tn y, Int.emod_eq_of_lt (by omega) (by omega), Int.emod_eq_of_lt (by omega) (by omega)]
    exact Nat.or_lt_two_pow (by omega) (by omega)
  rw [jb_ti]
  split <;> omega
theorem jb_sl : ∀ n, n < 32 → ((Int32.ofInt (n : Nat) &&& 31).toBitVec.smod 32).toNat = n := by decide +kernel
theorem jb_su : ∀ n, n < 32 → (((Int32.ofInt (n : Nat)).toUInt32 &&& Int32.toUInt32 31).toBitVec % 32).toNat = n := by decide +kernel
theorem jb_shl (x : Int) {k : Nat} (hk : k < 32) : (Int32.ofInt x <<< (Int32.ofInt (k : Nat) &&& 31)).toBitVec.toNat = ((x % 4294967296).toNat * 2 ^ k) % 4294967296 := by
  rw [Int32.toBitVec_shiftLeft]
  show ((Int32.ofInt x).toBitVec <<< ((Int32.ofInt (k : Nat) &&& 31).toBitVec.smod 32).toNat).toNat = _
  rw [jb_sl k hk, BitVec.toNat_shiftLeft, jb_tn, Nat.shiftLeft_eq]
theorem j_shl_ex {x : Int} (k : Nat) (hk : k < 32) (h0 : 0 ≤ x) (h1 : x * (2 ^ k : Nat) ≤ 2147483647) : j_shl x (k : Nat) = x * (2 ^ k : Nat) := by
  have hp : 0 < 2 ^ k := Nat.two_pow_pos k
  have hx : x ≤ 2147483647 := by
    have : x * 1 ≤ x * (2 ^ k : Nat) := Int.mul_le_mul_of_nonneg_left (by omega) h0
    omega
  unfold j_shl
  have hN := jb_shl x hk
  obtain ⟨n, rfl⟩ := Int.eq_ofNat_of_zero_le h0
  have e1 : ((n : Int) % 4294967296).toNat = n := by omega
  have e2 : ((n : Int) * (2 ^ k : Nat)) = ((n * 2 ^ k : Nat) : Int) := by simp
  rw [e2] at h1 ⊢
  rw [e1, Nat.mod_eq_of_lt (by omega)] at hN
  rw [jb_ti, hN]
  split <;> omega
theorem j_shr_ex {x : Int} (k : Nat) (hk : k < 32) (h0 : -2147483648 ≤ x) (h1 : x ≤ 2147483647) : j_shr x (k : Nat) = x / (2 ^ k : Nat) := by
  unfold j_shr
  show (Int32.ofInt x >>> (Int32.ofInt (k : Nat) &&& 31)).toBitVec.toInt = _
  rw [Int32.toBitVec_shiftRight]
  show ((Int32.ofInt x).toBitVec.sshiftRight ((Int32.ofInt (k : Nat) &&& 31).toBitVec.smod 32).toNat).toInt = _
  rw [jb_sl k hk, BitVec.toInt_sshiftRight, Int.shiftRight_eq_div_pow]
  have e : (Int32.ofInt x).toBitVec.toInt = x := Int32.toInt_ofInt_of_le (by omega) (by omega)
  rw [e]
section JW
variable {A : Nat → Option (Nat × (Nat → Int32))} {D : Nat} {m : ix_M} {pc : Nat} {ls ls' : ix_L} {st : List Value} {M : jm} {Q : Option Value → jm → Prop}
/-- another payload of the same value -/
theorem jr.iw {x : Int} (y : Int) (h : Int32.ofInt y = Int32.ofInt x) (k : jr A D m pc ls (.int (Int32.ofInt y) :: st) M Q) : jr A D m pc ls (.int (Int32.ofInt x) :: st) M Q := by
  rw [h] at k
  exact k
theorem jr.lw {x : Int} (y : Int) (h : Int64.ofInt y = Int64.ofInt x) (k : jr A D m pc ls (.long (Int64.ofInt y) :: st) M Q) : jr A D m pc ls (.long (Int64.ofInt x) :: st) M Q := by
  rw [h] at k
  exact k
theorem j_w_eq (x : Int) : Int32.ofInt (j_w x) = Int32.ofInt x := Int32.ofInt_toInt _
theorem jl_w_eq (x : Int) : Int64.ofInt (jl_w x) = Int64.ofInt x := Int64.ofInt_toInt _
end JW
theorem jbl_sl : ∀ n, n < 64 → (((Int32.ofInt (n : Nat)).toInt64 &&& 63).toBitVec.smod 64).toNat = n := by decide +kernel
theorem jl_shr_ex {x : Int} (k : Nat) (hk : k < 64) (h0 : -9223372036854775808 ≤ x) (h1 : x ≤ 9223372036854775807) : jl_shr x (k : Nat) = x / (2 ^ k : Nat) := by
  unfold jl_shr
  show (Int64.ofInt x >>> ((Int32.ofInt (k : Nat)).toInt64 &&& 63)).toBitVec.toInt = _
  rw [Int64.toBitVec_shiftRight]
  show ((Int64.ofInt x).toBitVec.sshiftRight (((Int32.ofInt (k : Nat)).toInt64 &&& 63).toBitVec.smod 64).toNat).toInt = _
  rw [jbl_sl k hk, BitVec.toInt_sshiftRight, Int.shiftRight_eq_div_pow]
  have e : (Int64.ofInt x).toBitVec.toInt = x := Int64.toInt_ofInt_of_le (by omega) (by omega)
  rw [e]
theorem jl_and_mask {x : Int} (k : Nat) (hk : k < 63) (h0 : 0 ≤ x) (h1 : x ≤ 9223372036854775807) : jl_and x ((2 ^ k - 1 : Nat) : Int) = x % (2 ^ k : Nat) := by
  have hp : 0 < 2 ^ k := Nat.two_pow_pos k
  have hp2 : 2 ^ k ≤ 2 ^ 62 := Nat.pow_le_pow_right (by decide) (by omega)
  have hp3 : 2 ^ 62 = 4611686018427387904 := rfl
  obtain ⟨n, rfl⟩ := Int.eq_ofNat_of_zero_le h0
  unfold jl_and
  have hN : (Int64.ofInt (n : Int) &&& Int64.ofInt ((2 ^ k - 1 : Nat) : Int)).toBitVec.toNat = n % 2 ^ k := by
    rw [Int64.toBitVec_and, BitVec.toNat_and, jbl_tn, jbl_tn]
    rw [show ((n : Int) % 18446744073709551616).toNat = n by omega, show (((2 ^ k - 1 : Nat) : Int) % 18446744073709551616).toNat = 2 ^ k - 1 by omega]
    exact Nat.and_two_pow_sub_one_eq_mod n k
  have hl : n % 2 ^ k < 2 ^ k := Nat.mod_lt _ hp
  have e2 : ((n : Int) % (2 ^ k : Nat)) = ((n % 2 ^ k : Nat) : Int) := by simp
  rw [e2, jbl_ti, hN]
  split <;> omega
end
section
/-! ===== the reference: what its cells may hold ===== -/
noncomputable def xrf0_0 (j : Nat) : Option (Int × Int) := bif Nat.blt j 12 then (bif Nat.blt j 6 then (bif Nat.blt j 2 then (bif Nat.beq j 1 then some ((0, 1600)) else none) else (bif Nat.beq j 2 then some ((0, 2000000)) else none)) else (bif Nat.blt j 10 then (bif Nat.beq j 6 then some ((0, 12)) else none) else (bif Nat.blt j 11 then (bif Nat.beq j 10 then some ((0, 6)) else none) else (bif Nat.beq j 11 then some ((-1, 400)) else none)))) else (bif Nat.blt j 14 then (bif Nat.blt j 13 then (bif Nat.beq j 12 then some ((-1, 11)) else none) else (bif Nat.beq j 13 then some ((-1, 6)) else none)) else (bif Nat.blt j 15 then (bif Nat.beq j 14 then some ((-1, 12)) else none) else (bif Nat.blt j 16 then (bif Nat.beq j 15 then some ((-1, 400)) else none) else (bif Nat.beq j 16 then some ((-1, 11)) else none))))
noncomputable def xrf0_1 (j : Nat) : Option (Int × Int) := bif Nat.blt j 63 then (bif Nat.blt j 60 then (bif Nat.blt j 59 then (bif Nat.beq j 34 then some ((0, 1)) else none) else (bif Nat.beq j 59 then some ((0, 1)) else none)) else (bif Nat.blt j 61 then (bif Nat.beq j 60 then some ((0, 255)) else none) else (bif Nat.blt j 62 then (bif Nat.beq j 61 then some ((-9223372036854775808, 9223372036854775807)) else none) else (bif Nat.beq j 62 then some ((-9223372036854775808, 9223372036854775807)) else none)))) else (bif Nat.blt j 65 then (bif Nat.blt j 64 then (bif Nat.beq j 63 then some ((0, 65535)) else none) else (bif Nat.beq j 64 then some ((0, 65535)) else none)) else (bif Nat.blt j 66 then (bif Nat.beq j 65 then some ((0, 11)) else none) else (bif Nat.blt j 72 then (bif Nat.beq j 66 then some ((-1, 1)) else none) else (bif Nat.beq j 72 then some ((0, 1600)) else none))))
noncomputable def xrf0_2 (j : Nat) : Option (Int × Int) := bif Nat.blt j 78 then (bif Nat.blt j 75 then (bif Nat.blt j 74 then (bif Nat.beq j 73 then some ((0, 1600)) else none) else (bif Nat.beq j 74 then some ((0, 4)) else none)) else (bif Nat.blt j 76 then (bif Nat.beq j 75 then some ((0, 1600)) else none) else (bif Nat.blt j 77 then (bif Nat.beq j 76 then some ((-1, 68)) else none) else (bif Nat.beq j 77 then some ((-9223372036854775808, 9223372036854775807)) else none)))) else (bif Nat.blt j 80 then (bif Nat.blt j 79 then (bif Nat.beq j 78 then some ((-9223372036854775808, 9223372036854775807)) else none) else (bif Nat.beq j 79 then some ((0, 255)) else none)) else (bif Nat.blt j 81 then (bif Nat.beq j 80 then some ((0, 7)) else none) else (bif Nat.blt j 82 then (bif Nat.beq j 81 then some ((-1, 1600)) else none) else (bif Nat.beq j 82 then some ((0, 16)) else none))))
noncomputable def xrf0_3 (j : Nat) : Option (Int × Int) := bif Nat.blt j 100 then (bif Nat.blt j 89 then (bif Nat.blt j 88 then (bif Nat.beq j 83 then some ((0, 301)) else none) else (bif Nat.beq j 88 then some ((0, 16)) else none)) else (bif Nat.blt j 90 then (bif Nat.beq j 89 then some ((0, 301)) else none) else (bif Nat.blt j 96 then (bif Nat.beq j 90 then some ((0, 2200)) else none) else (bif Nat.beq j 96 then some ((0, 300)) else none)))) else (bif Nat.blt j 102 then (bif Nat.blt j 101 then (bif Nat.beq j 100 then some ((0, 13)) else none) else (bif Nat.beq j 101 then some ((0, 1)) else none)) else (bif Nat.blt j 107 then (bif Nat.beq j 102 then some ((0, 400)) else none) else (bif Nat.blt j 110 then (bif Nat.beq j 107 then some ((0, 16)) else none) else (bif Nat.beq j 110 then some ((0, 10000)) else none))))
noncomputable def xrf0_4 (j : Nat) : Option (Int × Int) := bif Nat.blt j 133 then (bif Nat.blt j 122 then (bif Nat.blt j 112 then (bif Nat.beq j 111 then some ((0, 2000)) else none) else (bif Nat.beq j 112 then some ((0, 2147483647)) else none)) else (bif Nat.blt j 131 then (bif Nat.beq j 122 then some ((0, 9)) else none) else (bif Nat.blt j 132 then (bif Nat.beq j 131 then some ((0, 400)) else none) else (bif Nat.beq j 132 then some ((0, 2200)) else none)))) else (bif Nat.blt j 135 then (bif Nat.blt j 134 then (bif Nat.beq j 133 then some ((0, 23)) else none) else (bif Nat.beq j 134 then some ((0, 8)) else none)) else (bif Nat.blt j 136 then (bif Nat.beq j 135 then some ((0, 8)) else none) else (bif Nat.blt j 137 then (bif Nat.beq j 136 then some ((0, 1)) else none) else (bif Nat.beq j 137 then some ((0, 2)) else none))))
noncomputable def xrf0_5 (j : Nat) : Option (Int × Int) := bif Nat.blt j 142 then (bif Nat.blt j 140 then (bif Nat.blt j 139 then (bif Nat.beq j 138 then some ((0, 8)) else none) else (bif Nat.beq j 139 then some ((-9223372036854775808, 9223372036854775807)) else none)) else (bif Nat.blt j 141 then (bif Nat.beq j 140 then some ((0, 1)) else none) else (bif Nat.beq j 141 then some ((0, 8)) else none))) else (bif Nat.blt j 144 then (bif Nat.blt j 143 then (bif Nat.beq j 142 then some ((-9223372036854775808, 9223372036854775807)) else none) else (bif Nat.beq j 143 then some ((0, 300)) else none)) else (bif Nat.blt j 145 then (bif Nat.beq j 144 then some ((-1, 15)) else none) else (bif Nat.blt j 147 then (bif Nat.beq j 145 then some ((0, 40)) else none) else (bif Nat.beq j 147 then some ((0, 15)) else none))))
noncomputable def xrf0 (j : Nat) : Option (Int × Int) := bif Nat.blt j 83 then (bif Nat.blt j 34 then (xrf0_0 j) else (bif Nat.blt j 73 then (xrf0_1 j) else (xrf0_2 j))) else (bif Nat.blt j 111 then (xrf0_3 j) else (bif Nat.blt j 138 then (xrf0_4 j) else (xrf0_5 j)))
noncomputable def xrr0_0 (a : Nat) : Option (Int × Int) := bif Nat.blt a 604 then (bif Nat.blt a 601 then (bif Nat.blt a 600 then (bif Nat.beq a 599 then some ((0, 255)) else none) else (bif Nat.beq a 600 then some ((-1, 400)) else none)) else (bif Nat.blt a 602 then (bif Nat.beq a 601 then some ((0, 255)) else none) else (bif Nat.blt a 603 then (bif Nat.beq a 602 then some ((-9223372036854775808, 9223372036854775807)) else none) else (bif Nat.beq a 603 then some ((0, 11)) else none)))) else (bif Nat.blt a 606 then (bif Nat.blt a 605 then (bif Nat.beq a 604 then some ((0, 400)) else none) else (bif Nat.beq a 605 then some ((0, 400)) else none)) else (bif Nat.blt a 607 then (bif Nat.beq a 606 then some ((0, 1)) else none) else (bif Nat.blt a 608 then (bif Nat.beq a 607 then some ((0, 11)) else none) else (bif Nat.beq a 608 then some ((-9223372036854775808, 9223372036854775807)) else none))))
noncomputable def xrr0_1 (a : Nat) : Option (Int × Int) := bif Nat.blt a 614 then (bif Nat.blt a 611 then (bif Nat.blt a 610 then (bif Nat.beq a 609 then some ((-9223372036854775808, 9223372036854775807)) else none) else (bif Nat.beq a 610 then some ((-9223372036854775808, 9223372036854775807)) else none)) else (bif Nat.blt a 612 then (bif Nat.beq a 611 then some ((0, 255)) else none) else (bif Nat.blt a 613 then (bif Nat.beq a 612 then some ((0, 2000030)) else none) else (bif Nat.beq a 613 then some ((0, 720)) else none)))) else (bif Nat.blt a 616 then (bif Nat.blt a 615 then (bif Nat.beq a 614 then some ((-1, 360)) else none) else (bif Nat.beq a 615 then some ((0, 255)) else none)) else (bif Nat.blt a 617 then (bif Nat.beq a 616 then some ((0, 1)) else none) else (bif Nat.blt a 618 then (bif Nat.beq a 617 then some ((-1, 400)) else none) else (bif Nat.beq a 618 then some ((0, 255)) else none))))
noncomputable def xrr0_2 (a : Nat) : Option (Int × Int) := bif Nat.blt a 624 then (bif Nat.blt a 621 then (bif Nat.blt a 620 then (bif Nat.beq a 619 then some ((0, 400)) else none) else (bif Nat.beq a 620 then some ((0, 400)) else none)) else (bif Nat.blt a 622 then (bif Nat.beq a 621 then some ((0, 400)) else none) else (bif Nat.blt a 623 then (bif Nat.beq a 622 then some ((-1, 720)) else none) else (bif Nat.beq a 623 then some ((0, 1000)) else none)))) else (bif Nat.blt a 626 then (bif Nat.blt a 625 then (bif Nat.beq a 624 then some ((0, 1000)) else none) else (bif Nat.beq a 625 then some ((0, 1000)) else none)) else (bif Nat.blt a 627 then (bif Nat.beq a 626 then some ((0, 2000000)) else none) else (bif Nat.blt a 628 then (bif Nat.beq a 627 then some ((0, 1)) else none) else (bif Nat.beq a 628 then some ((0, 1)) else none))))
noncomputable def xrr0_3 (a : Nat) : Option (Int × Int) := bif Nat.blt a 634 then (bif Nat.blt a 631 then (bif Nat.blt a 630 then (bif Nat.beq a 629 then some ((0, 255)) else none) else (bif Nat.beq a 630 then some ((-9223372036854775808, 9223372036854775807)) else none)) else (bif Nat.blt a 632 then (bif Nat.beq a 631 then some ((0, 65535)) else none) else (bif Nat.blt a 633 then (bif Nat.beq a 632 then some ((0, 1)) else none) else (bif Nat.beq a 633 then some ((-2147483648, 2147483647)) else none)))) else (bif Nat.blt a 636 then (bif Nat.blt a 635 then (bif Nat.beq a 634 then some ((0, 1)) else none) else (bif Nat.beq a 635 then some ((0, 65535)) else none)) else (bif Nat.blt a 637 then (bif Nat.beq a 636 then some ((-9223372036854775808, 9223372036854775807)) else none) else (bif Nat.blt a 638 then (bif Nat.beq a 637 then some ((-9223372036854775808, 9223372036854775807)) else none) else (bif Nat.beq a 638 then some ((0, 15)) else none))))
noncomputable def xrr0_4 (a : Nat) : Option (Int × Int) := bif Nat.blt a 644 then (bif Nat.blt a 641 then (bif Nat.blt a 640 then (bif Nat.beq a 639 then some ((-2147483648, 2147483647)) else none) else (bif Nat.beq a 640 then some ((-1, 3)) else none)) else (bif Nat.blt a 642 then (bif Nat.beq a 641 then some ((-9223372036854775808, 9223372036854775807)) else none) else (bif Nat.blt a 643 then (bif Nat.beq a 642 then some ((0, 70000)) else none) else (bif Nat.beq a 643 then some ((0, 1)) else none)))) else (bif Nat.blt a 646 then (bif Nat.blt a 645 then (bif Nat.beq a 644 then some ((-9223372036854775808, 9223372036854775807)) else none) else (bif Nat.beq a 645 then some ((0, 65535)) else none)) else (bif Nat.blt a 647 then (bif Nat.beq a 646 then some ((0, 32)) else none) else (bif Nat.blt a 648 then (bif Nat.beq a 647 then some ((0, 10)) else none) else (bif Nat.beq a 648 then some ((0, 26)) else none))))
noncomputable def xrr0_5 (a : Nat) : Option (Int × Int) := bif Nat.blt a 654 then (bif Nat.blt a 651 then (bif Nat.blt a 650 then (bif Nat.beq a 649 then some ((-9223372036854775808, 9223372036854775807)) else none) else (bif Nat.beq a 650 then some ((-1, 68)) else none)) else (bif Nat.blt a 652 then (bif Nat.beq a 651 then some ((0, 255)) else none) else (bif Nat.blt a 653 then (bif Nat.beq a 652 then some ((0, 2200)) else none) else (bif Nat.beq a 653 then some ((-1, 2200)) else none)))) else (bif Nat.blt a 656 then (bif Nat.blt a 655 then (bif Nat.beq a 654 then some ((0, 1000)) else none) else (bif Nat.beq a 655 then some ((-9223372036854775808, 9223372036854775807)) else none)) else (bif Nat.blt a 657 then (bif Nat.beq a 656 then some ((-9223372036854775808, 9223372036854775807)) else none) else (bif Nat.blt a 658 then (bif Nat.beq a 657 then some ((0, 2200)) else none) else (bif Nat.beq a 658 then some ((-1, 2200)) else none))))
noncomputable def xrr0_6 (a : Nat) : Option (Int × Int) := bif Nat.blt a 664 then (bif Nat.blt a 661 then (bif Nat.blt a 660 then (bif Nat.beq a 659 then some ((0, 1000)) else none) else (bif Nat.beq a 660 then some ((-9223372036854775808, 9223372036854775807)) else none)) else (bif Nat.blt a 662 then (bif Nat.beq a 661 then some ((-9223372036854775808, 9223372036854775807)) else none) else (bif Nat.blt a 663 then (bif Nat.beq a 662 then some ((0, 1600)) else none) else (bif Nat.beq a 663 then some ((0, 2200)) else none)))) else (bif Nat.blt a 666 then (bif Nat.blt a 665 then (bif Nat.beq a 664 then some ((0, 255)) else none) else (bif Nat.beq a 665 then some ((0, 2200)) else none)) else (bif Nat.blt a 667 then (bif Nat.beq a 666 then some ((-1, 68)) else none) else (bif Nat.blt a 668 then (bif Nat.beq a 667 then some ((0, 4)) else none) else (bif Nat.beq a 668 then some ((0, 3)) else none))))
noncomputable def xrr0_7 (a : Nat) : Option (Int × Int) := bif Nat.blt a 674 then (bif Nat.blt a 671 then (bif Nat.blt a 670 then (bif Nat.beq a 669 then some ((0, 2200)) else none) else (bif Nat.beq a 670 then some ((-9223372036854775808, 9223372036854775807)) else none)) else (bif Nat.blt a 672 then (bif Nat.beq a 671 then some ((-9223372036854775808, 9223372036854775807)) else none) else (bif Nat.blt a 673 then (bif Nat.beq a 672 then some ((0, 16)) else none) else (bif Nat.beq a 673 then some ((-9223372036854775808, 9223372036854775807)) else none)))) else (bif Nat.blt a 676 then (bif Nat.blt a 675 then (bif Nat.beq a 674 then some ((-1, 6)) else none) else (bif Nat.beq a 675 then some ((0, 40)) else none)) else (bif Nat.blt a 677 then (bif Nat.beq a 676 then some ((-9223372036854775808, 9223372036854775807)) else none) else (bif Nat.blt a 678 then (bif Nat.beq a 677 then some ((-1, 11)) else none) else (bif Nat.beq a 678 then some ((-9223372036854775808, 9223372036854775807)) else none))))
noncomputable def xrr0_8 (a : Nat) : Option (Int × Int) := bif Nat.blt a 683 then (bif Nat.blt a 681 then (bif Nat.blt a 680 then (bif Nat.beq a 679 then some ((0, 15)) else none) else (bif Nat.beq a 680 then some ((0, 1)) else none)) else (bif Nat.blt a 682 then (bif Nat.beq a 681 then some ((0, 2200)) else none) else (bif Nat.beq a 682 then some ((0, 1)) else none))) else (bif Nat.blt a 685 then (bif Nat.blt a 684 then (bif Nat.beq a 683 then some ((0, 2)) else none) else (bif Nat.beq a 684 then some ((0, 8)) else none)) else (bif Nat.blt a 686 then (bif Nat.beq a 685 then some ((-9223372036854775808, 9223372036854775807)) else none) else (bif Nat.blt a 687 then (bif Nat.beq a 686 then some ((-9223372036854775808, 9223372036854775807)) else none) else (bif Nat.beq a 687 then some ((0, 1600)) else none))))
noncomputable def xrr0 (a : Nat) : Option (Int × Int) := bif Nat.blt a 639 then (bif Nat.blt a 619 then (bif Nat.blt a 609 then (xrr0_0 a) else (xrr0_1 a)) else (bif Nat.blt a 629 then (xrr0_2 a) else (xrr0_3 a))) else (bif Nat.blt a 659 then (bif Nat.blt a 649 then (xrr0_4 a) else (xrr0_5 a)) else (bif Nat.blt a 669 then (xrr0_6 a) else (bif Nat.blt a 679 then (xrr0_7 a) else (xrr0_8 a))))
noncomputable def xri (a : Nat) (i : Int) : Int × Int := bif Nat.beq a 598 then (xrf0 i.toNat).getD (-9223372036854775808, 9223372036854775807) else (xrr0 a).getD (-9223372036854775808, 9223372036854775807)
/-- every cell of the reference is within its interval -/
noncomputable def RI (M : jm) : Prop := ∀ (a : Nat) (i : Int), 598 ≤ a → (xri a i).1 ≤ M a i ∧ M a i ≤ (xri a i).2
theorem RI.u {M : jm} (h : RI M) {a : Nat} {i v : Int} (hv : (xri a i).1 ≤ v ∧ v ≤ (xri a i).2) : RI (ju M a i v) := by
  intro b k hb
  by_cases hq : b = a ∧ k = i
  · obtain ⟨rfl, rfl⟩ := hq
    rw [ju_same]
    exact hv
  · rw [ju_ne M v hq]
    exact h b k hb
/-- a row's interval doesn't ask for the place -/
theorem xri_row {a : Nat} {lo hi : Int} (ha : Nat.beq a 598 = false) (h : (xrr0 a).getD (-9223372036854775808, 9223372036854775807) = (lo, hi)) (i : Int) : xri a i = (lo, hi) := by
  unfold xri
  rw [ha]
  exact h
theorem j_zn {x : Int} (h : 0 ≤ x ∧ x ≤ 1) : vp_nar .boolean (Int32.ofInt x) = Int32.ofInt x := by
  rcases (show x = 0 ∨ x = 1 by omega) with rfl | rfl <;> decide
end
section
/-! ===== the reference: its headers lie within the packet ===== -/
noncomputable def lst (k : Int) : Int := if k = 2 ∨ k = 8 then 20 else if k = 3 then 24 else if k = 0 ∨ k = 1 ∨ k = 10 then 4 else if k = 11 then 0 else 8
theorem lst_le (k : Int) : 0 ≤ lst k ∧ lst k ≤ 24 := by unfold lst; split <;> (try split) <;> (try split) <;> (try split) <;> omega
theorem lst_k (k : Int) : (k = 2 → lst k = 20) ∧ (k = 8 → lst k = 20) ∧ (k = 3 → lst k = 24) ∧ (k = 0 → lst k = 4) ∧ (k = 1 → lst k = 4) ∧ (k = 10 → lst k = 4) ∧ (k = 11 → lst k = 0) ∧ (4 ≤ k ∧ k ≤ 7 ∨ k = 9 → lst k = 8) := by
  refine ⟨?_, ?_, ?_, ?_, ?_, ?_, ?_, ?_⟩ <;> intro h <;> unfold lst <;> (repeat' split) <;> omega
theorem lst_j {k : Int} (h : 0 ≤ k ∧ k ≤ 11) : (k = 11 ∧ lst k = 0) ∨ (k ≤ 10 ∧ 4 ≤ lst k) := by
  rcases (show k = 0 ∨ k = 1 ∨ k = 2 ∨ k = 3 ∨ k = 4 ∨ k = 5 ∨ k = 6 ∨ k = 7 ∨ k = 8 ∨ k = 9 ∨ k = 10 ∨ k = 11 by omega) with h | h | h | h | h | h | h | h | h | h | h | h
  all_goals subst h
  all_goals first | exact Or.inr ⟨by decide, by decide⟩ | exact Or.inl ⟨rfl, rfl⟩
noncomputable def RH (M : jm) : Prop := ∀ h : Int, M 604 h + lst (M 603 h) ≤ 400 ∧ M 604 h + M 605 h ≤ 400 ∧ M 604 h ≤ 399
theorem RH.o {M : jm} (h : RH M) {a : Nat} {i v : Int} (h3 : 603 ≠ a) (h4 : 604 ≠ a) (h5 : 605 ≠ a) : RH (ju M a i v) := by
  intro j
  rw [ju_c M v h3, ju_c M v h4, ju_c M v h5]
  exact h j
theorem RH.w {M : jm} (h : RH M) {j k a s : Int} (h1 : a + lst k ≤ 400) (h2 : a + s ≤ 400) (h3 : a ≤ 399) : RH (ju (ju (ju M 603 j k) 604 j a) 605 j s) := by
  intro i
  by_cases hi : i = j
  · subst hi
    rw [ju_c _ _ (by decide : (604 : Nat) ≠ 605), ju_same, ju_c _ _ (by decide : (603 : Nat) ≠ 605), ju_c _ _ (by decide : (603 : Nat) ≠ 604), ju_same, ju_same]
    exact ⟨h1, h2, h3⟩
  · rw [ju_c _ _ (by decide : (604 : Nat) ≠ 605), ju_i _ _ hi, ju_c _ _ (by decide : (604 : Nat) ≠ 603), ju_c _ _ (by decide : (603 : Nat) ≠ 605), ju_c _ _ (by decide : (603 : Nat) ≠ 604), ju_i _ _ hi, ju_i _ _ hi, ju_c _ _ (by decide : (605 : Nat) ≠ 604), ju_c _ _ (by decide : (605 : Nat) ≠ 603)]
    exact h i
theorem j_rem_ex {x y : Int} (hx : 0 ≤ x ∧ x ≤ 2147483647) (hy : 0 < y ∧ y ≤ 2147483647) : j_rem x y = x % y := by
  have e1 : (Int32.ofInt x).toInt = x := Int32.toInt_ofInt_of_le (by omega) (by omega)
  have e2 : (Int32.ofInt y).toInt = y := Int32.toInt_ofInt_of_le (by omega) (by omega)
  have hd : Int32.ofInt x / Int32.ofInt y = Int32.ofInt (x.tdiv y) := (Int32.ofInt_tdiv (by show (-2147483648 : Int) ≤ x; omega) (by show x ≤ (2147483647 : Int); omega) (by show (-2147483648 : Int) ≤ y; omega) (by show y ≤ (2147483647 : Int); omega)).symm
  unfold j_rem
  rw [hd, ← Int32.ofInt_mul, ← Int32.ofInt_sub]
  have e3 : x - x.tdiv y * y = x % y := by
    rw [Int.tdiv_eq_ediv_of_nonneg hx.1, Int.mul_comm]
    have := Int.emod_def x y
    omega
  rw [e3]
  have h1 := Int.emod_nonneg x (show y ≠ 0 by omega)
  have h2 := Int.emod_lt_of_pos x hy.1
  exact Int32.toInt_ofInt_of_le (by omega) (by omega)
theorem j_div_ex {x y : Int} (hx : 0 ≤ x ∧ x ≤ 2147483647) (hy : 0 < y ∧ y ≤ 2147483647) : j_div x y = x / y := by
  have hd : Int32.ofInt x / Int32.ofInt y = Int32.ofInt (x.tdiv y) := (Int32.ofInt_tdiv (by show (-2147483648 : Int) ≤ x; omega) (by show x ≤ (2147483647 : Int); omega) (by show (-2147483648 : Int) ≤ y; omega) (by show y ≤ (2147483647 : Int); omega)).symm
  unfold j_div
  rw [hd, Int.tdiv_eq_ediv_of_nonneg hx.1]
  have h1 : 0 ≤ x / y := Int.ediv_nonneg hx.1 (by omega)
  have h2 : x / y ≤ x := Int.ediv_le_self y hx.1
  exact Int32.toInt_ofInt_of_le (by omega) (by omega)
noncomputable def fldn (k : Int) : Int := if k = 2 then 11 else if k = 3 then 7 else if k = 8 then 8 else if k = 4 ∨ k = 10 then 2 else if k = 11 then 1 else if k = 0 ∨ k = 1 ∨ k = 5 then 3 else 4
theorem fldn_k (k : Int) : (k = 0 → fldn k = 3) ∧ (k = 1 → fldn k = 3) ∧ (k = 2 → fldn k = 11) ∧ (k = 3 → fldn k = 7) ∧ (k = 4 → fldn k = 2) ∧ (k = 5 → fldn k = 3) ∧ (k = 6 → fldn k = 4) ∧ (k = 7 → fldn k = 4) ∧ (k = 8 → fldn k = 8) ∧ (k = 9 → fldn k = 4) ∧ (k = 10 → fldn k = 2) ∧ (k = 11 → fldn k = 1) := by
  refine ⟨?_, ?_, ?_, ?_, ?_, ?_, ?_, ?_, ?_, ?_, ?_, ?_⟩ <;> intro h <;> unfold fldn <;> (repeat' split) <;> omega
theorem fldn_le (k : Int) : 1 ≤ fldn k ∧ fldn k ≤ 11 := by unfold fldn; (repeat' split) <;> omega
theorem RH.two {M : jm} (h : RH M) (t : Int) : (M 603 t = 2 → M 604 t ≤ 380) ∧ (M 603 t = 3 → M 604 t ≤ 376) := by
  have h1 := (h t).1
  refine ⟨fun e => ?_, fun e => ?_⟩ <;> rw [e] at h1
  · have : lst 2 = 20 := by decide
    omega
  · have : lst 3 = 24 := by decide
    omega
theorem j_zr {x : Int} (h : 0 ≤ x ∧ x ≤ 1) : narrow .boolean (.int (Int32.ofInt x)) = .int (Int32.ofInt x) := by
  rcases (show x = 0 ∨ x = 1 by omega) with rfl | rfl <;> decide
theorem RH.part {M : jm} (h : RH M) (t : Int) : M 603 t = 6 → M 604 t ≤ 392 := by
  intro e
  have h1 := (h t).1
  rw [e] at h1
  have : lst 6 = 8 := by decide
  omega
theorem RH.car {M : jm} (h : RH M) (t : Int) : (M 603 t = 7 ∨ M 603 t = 8 ∨ M 603 t = 9 → M 604 t ≤ 392) ∧ (M 603 t = 8 → M 604 t ≤ 380) := by
  have h1 := (h t).1
  refine ⟨fun e => ?_, fun e => ?_⟩
  · rcases e with e | e | e <;> rw [e] at h1
    · have : lst 7 = 8 := by decide
      omega
    · have : lst 8 = 20 := by decide
      omega
    · have : lst 9 = 8 := by decide
      omega
  · rw [e] at h1
    have : lst 8 = 20 := by decide
    omega
end
section
/-! ===== the reference: the ends that stand; states of flows ===== -/
noncomputable def RE (M : jm) : Prop := 0 ≤ M 598 65 ∧ M 598 65 < M 598 6 ∧ (M 603 (M 598 65) = 7 ∨ M 603 (M 598 65) = 8 ∨ M 603 (M 598 65) = 9) ∧ (M 598 60 = 6 → M 603 (M 598 65) = 8) ∧ (M 598 60 = 1 ∨ M 598 60 = 6 ∨ M 598 60 = 17) ∧ ∃ t : Int, 0 ≤ t ∧ t < M 598 6 ∧ (M 603 t = 2 ∨ M 603 t = 3)
theorem RE.mk' {M : jm} {h : Int} (e : M 598 65 = h) (h0 : 0 ≤ h) (h1 : h < M 598 6) (h2 : M 603 h = 7 ∨ M 603 h = 8 ∨ M 603 h = 9) (h3 : M 598 60 = 6 → M 603 h = 8) (h4 : M 598 60 = 1 ∨ M 598 60 = 6 ∨ M 598 60 = 17) {t : Int} (t0 : 0 ≤ t) (t1 : t < M 598 6) (t2 : M 603 t = 2 ∨ M 603 t = 3) : RE M := by
  subst e
  exact ⟨h0, h1, h2, h3, h4, t, t0, t1, t2⟩
theorem RE.fr {M M' : jm} (h : RE M) (e65 : M' 598 65 = M 598 65) (e6 : M' 598 6 = M 598 6) (e60 : M' 598 60 = M 598 60) (e3 : ∀ i, M' 603 i = M 603 i) : RE M' := by
  obtain ⟨a1, a2, a3, a4, a5, t, b1, b2, b3⟩ := h
  exact ⟨by rw [e65]; exact a1, by rw [e65, e6]; exact a2, by rw [e65, e3]; exact a3, by rw [e65, e60, e3]; exact a4, by rw [e60]; exact a5, t, b1, by rw [e6]; exact b2, by rw [e3]; exact b3⟩
noncomputable def RF (M : jm) : Prop := ∀ f : Int, 0 ≤ f → M 629 f = 6 → 1 ≤ M 638 f ∧ M 638 f ≤ 10
noncomputable def RFx (M : jm) (g : Int) : Prop := ∀ f : Int, f ≠ g → 0 ≤ f → M 629 f = 6 → 1 ≤ M 638 f ∧ M 638 f ≤ 10
theorem RFx.none {M : jm} {g : Int} (h : RFx M g) (hg : g < 0) : RF M := fun f hf => h f (by omega) hf
theorem RF.fr {M M' : jm} (h : RF M) (h1 : ∀ f, M' 629 f = M 629 f) (h2 : ∀ f, M' 638 f = M 638 f) : RF M' := by
  intro f
  rw [h1, h2]
  exact h f
theorem RFx.fr {M M' : jm} {g : Int} (h : RFx M g) (h1 : ∀ f, M' 629 f = M 629 f) (h2 : ∀ f, M' 638 f = M 638 f) : RFx M' g := by
  intro f
  rw [h1, h2]
  exact h f
theorem RF.o {M : jm} (h : RF M) {a : Nat} {i v : Int} (h1 : 629 ≠ a) (h2 : 638 ≠ a) : RF (ju M a i v) := by
  intro f
  rw [ju_c M v h1, ju_c M v h2]
  exact h f
theorem RFx.o {M : jm} {g : Int} (h : RFx M g) {a : Nat} {i v : Int} (h1 : 629 ≠ a) (h2 : 638 ≠ a) : RFx (ju M a i v) g := by
  intro f
  rw [ju_c M v h1, ju_c M v h2]
  exact h f
theorem RF.x {M : jm} (h : RF M) {g v : Int} : RFx (ju M 629 g v) g := by
  intro f hf
  rw [ju_i M v hf, ju_c M v (by decide : (638 : Nat) ≠ 629)]
  exact h f
theorem RFx.x {M : jm} {g : Int} (h : RFx M g) {v : Int} : RFx (ju M 629 g v) g := by
  intro f hf
  rw [ju_i M v hf, ju_c M v (by decide : (638 : Nat) ≠ 629)]
  exact h f hf
theorem RFx.w {M : jm} {g : Int} (h : RFx M g) {s : Int} (hs : M 629 g = 6 → 1 ≤ s ∧ s ≤ 10) : RF (ju M 638 g s) := by
  intro f h0
  rw [ju_c M s (by decide : (629 : Nat) ≠ 638)]
  by_cases hf : f = g
  · subst hf
    rw [ju_same]
    exact hs
  · rw [ju_i M s hf]
    exact h f hf h0
theorem RF.w {M : jm} (h : RF M) {g s : Int} (hs : M 629 g = 6 → 1 ≤ s ∧ s ≤ 10) : RF (ju M 638 g s) := RFx.w (fun f _ => h f) hs
end
section
/-! ===== what the methods of packets and flows leave as it is; heads of kind FOUR; masks ===== -/
noncomputable def sS (a : Nat) (i : Int) : Bool := Nat.blt a 598 || (bif Nat.beq a 598 then (Nat.beq i.toNat 2 || Nat.ble 72 i.toNat) else ((Nat.ble 606 a && Nat.ble a 614) || (Nat.ble 617 a && Nat.ble a 621) || Nat.ble 647 a))
noncomputable def Kp (T M : jm) : Prop := ∀ (a : Nat) (i : Int), sS a i = true → M a i = T a i
theorem Kp.rfl (M : jm) : Kp M M := fun _ _ _ => Eq.refl _
theorem Kp.o {T M : jm} (h : Kp T M) {a : Nat} {i v : Int} (hs : sS a i = false) : Kp T (ju M a i v) := by
  intro b k hb
  by_cases hq : b = a ∧ k = i
  · obtain ⟨h1, h2⟩ := hq
    subst h1
    subst h2
    rw [hs] at hb
    cases hb
  · rw [ju_ne M v hq]
    exact h b k hb
noncomputable def LK (x : Int) (M : jm) : Prop := ∀ h : Int, 0 ≤ h → h < M 598 6 → M 604 h + M 605 h ≤ M 600 x ∧ lst (M 603 h) ≤ M 605 h ∧ (M 603 h = 2 → M 605 h = 4 * (M 601 (400 * x + M 604 h) % 16))
theorem LK.zero {x : Int} {M : jm} (e : M 598 6 = 0) : LK x M := by
  intro h h0 h1
  rw [e] at h1
  omega
theorem LK.fr {x : Int} {M M' : jm} (h : LK x M) (e6 : M' 598 6 = M 598 6) (e0 : ∀ i, M' 600 i = M 600 i) (e1 : ∀ i, M' 601 i = M 601 i) (e3 : ∀ i, M' 603 i = M 603 i) (e4 : ∀ i, M' 604 i = M 604 i) (e5 : ∀ i, M' 605 i = M 605 i) : LK x M' := by
  intro k k0 k1
  rw [e5, e1, e4, e3, e0]
  rw [e6] at k1
  exact h k k0 k1
theorem LK.add {x : Int} {M : jm} (h : LK x M) {H k a s : Int} (e : M 598 6 = H) (hs : a + s ≤ M 600 x) (hl : lst k ≤ s) (hk : k = 2 → s = 4 * (M 601 (400 * x + a) % 16)) : LK x (ju (ju (ju (ju M 603 H k) 604 H a) 605 H s) 598 6 (H + 1)) := by
  intro j j0 j1
  rw [ju_same] at j1
  rw [ju_c _ _ (by decide : (603 : Nat) ≠ 598), ju_c _ _ (by decide : (603 : Nat) ≠ 605), ju_c _ _ (by decide : (603 : Nat) ≠ 604), ju_c _ _ (by decide : (605 : Nat) ≠ 598), ju_c _ _ (by decide : (601 : Nat) ≠ 598), ju_c _ _ (by decide : (601 : Nat) ≠ 605), ju_c _ _ (by decide : (601 : Nat) ≠ 604), ju_c _ _ (by decide : (601 : Nat) ≠ 603), ju_c _ _ (by decide : (600 : Nat) ≠ 598), ju_c _ _ (by decide : (600 : Nat) ≠ 605), ju_c _ _ (by decide : (600 : Nat) ≠ 604), ju_c _ _ (by decide : (600 : Nat) ≠ 603), ju_c _ _ (by decide : (604 : Nat) ≠ 598), ju_c _ _ (by decide : (604 : Nat) ≠ 605)]
  by_cases hj : j = H
  · subst hj
    rw [ju_same, ju_same, ju_same]
    exact ⟨hs, hl, hk⟩
  · repeat rw [ju_i _ _ hj]
    exact h j j0 (by omega)
theorem j_and_mask {x : Int} (k : Nat) (hk : k < 31) (h0 : 0 ≤ x) (h1 : x ≤ 2147483647) : j_and x ((2 ^ k - 1 : Nat) : Int) = x % (2 ^ k : Nat) := by
  have hp : 0 < 2 ^ k := Nat.two_pow_pos k
  have hp2 : 2 ^ k ≤ 2 ^ 30 := Nat.pow_le_pow_right (by decide) (by omega)
  have hp3 : 2 ^ 30 = 1073741824 := Eq.refl _
  obtain ⟨n, rfl⟩ := Int.eq_ofNat_of_zero_le h0
  unfold j_and
  have hN : (Int32.ofInt (n : Int) &&& Int32.ofInt ((2 ^ k - 1 : Nat) : Int)).toBitVec.toNat = n % 2 ^ k := by
    rw [Int32.toBitVec_and, BitVec.toNat_and, jb_tn, jb_tn]
    rw [show ((n : Int) % 4294967296).toNat = n by omega, show (((2 ^ k - 1 : Nat) : Int) % 4294967296).toNat = 2 ^ k - 1 by omega]
    exact Nat.and_two_pow_sub_one_eq_mod n k
  have hl : n % 2 ^ k < 2 ^ k := Nat.mod_lt _ hp
  have e2 : ((n : Int) % (2 ^ k : Nat)) = ((n % 2 ^ k : Nat) : Int) := by simp
  rw [e2, jb_ti, hN]
  split <;> omega
noncomputable def rG (a : Nat) : Bool := Nat.beq a 606 || Nat.beq a 607 || Nat.beq a 613 || Nat.beq a 617 || Nat.beq a 618 || Nat.beq a 619 || Nat.beq a 620 || Nat.beq a 621
noncomputable def RGs (M : jm) (g : Int) : Prop := M 606 g ≠ 0 → 1 ≤ M 613 g ∧ (M 617 g ≠ -1 → 8 ≤ M 617 g ∧ 0 ≤ M 621 g ∧ M 621 g ≤ 380 ∧ M 619 g ≤ 392 ∧ M 620 g ≤ 399 ∧ (M 607 g = 2 → M 621 g < M 617 g ∧ M 621 g + 4 * (M 618 (400 * g + M 621 g) % 16) ≤ 400))
noncomputable def RG1 (M : jm) : Prop := ∀ j : Int, 0 ≤ j → RGs M j
noncomputable def RG1x (M : jm) (g : Int) : Prop := ∀ j : Int, 0 ≤ j → j ≠ g → RGs M j
theorem RGs.fr {M M' : jm} {j : Int} (h : RGs M j) (e : ∀ (a : Nat) (i : Int), rG a = true → M' a i = M a i) : RGs M' j := by
  unfold RGs at h ⊢
  rw [e 606 _ rfl, e 613 _ rfl, e 617 _ rfl, e 621 _ rfl, e 619 _ rfl, e 620 _ rfl, e 607 _ rfl, e 618 _ rfl]
  exact h
theorem rG_sS {a : Nat} {i : Int} (h : rG a = true) : sS a i = true := by
  unfold rG at h
  simp only [Bool.or_eq_true] at h
  rcases h with ((((((h | h) | h) | h) | h) | h) | h) | h <;> (have e := Nat.eq_of_beq_eq_true h; subst e; rfl)
theorem ju_rG {M : jm} {a b : Nat} {i k v : Int} (ha : rG a = false) (hb : rG b = true) : ju M a i v b k = M b k := ju_c M v (fun e => by rw [e, ha] at hb; cases hb)
theorem RG1.o {M : jm} (h : RG1 M) {a : Nat} {i v : Int} (ha : rG a = false) : RG1 (ju M a i v) := fun j hj => (h j hj).fr (fun _ _ hb => ju_rG ha hb)
theorem RG1x.o {M : jm} {g : Int} (h : RG1x M g) {a : Nat} {i v : Int} (ha : rG a = false) : RG1x (ju M a i v) g := fun j hj hg => (h j hj hg).fr (fun _ _ hb => ju_rG ha hb)
theorem RG1.kp {M M' : jm} (h : RG1 M) (k : Kp M M') : RG1 M' := fun j hj => (h j hj).fr (fun a i hb => k a i (rG_sS hb))
theorem RG1x.kp {M M' : jm} {g : Int} (h : RG1x M g) (k : Kp M M') : RG1x M' g := fun j hj hg => (h j hj hg).fr (fun a i hb => k a i (rG_sS hb))
theorem RG1.fr {M M' : jm} (h : RG1 M) (e : ∀ (a : Nat) (i : Int), rG a = true → M' a i = M a i) : RG1 M' := fun j hj => (h j hj).fr e
theorem RG1.x {M : jm} (h : RG1 M) (g : Int) : RG1x M g := fun j hj _ => h j hj
theorem RG1.mk {M : jm} {g : Int} (h : RG1x M g) (hg : RGs M g) : RG1 M := fun j hj => by
  by_cases e : j = g
  · rw [e]
    exact hg
  · exact h j hj e
theorem RGs.sl {M : jm} {j g v : Int} {a : Nat} (h : RGs M j) (hj : j ≠ g) (ha : (618 : Nat) ≠ a) : RGs (ju M a g v) j := by
  unfold RGs at h ⊢
  rw [ju_i (b := 606) M v hj, ju_i (b := 613) M v hj, ju_i (b := 617) M v hj, ju_i (b := 621) M v hj, ju_i (b := 619) M v hj, ju_i (b := 620) M v hj, ju_i (b := 607) M v hj, ju_c M v ha]
  exact h
theorem RG1x.s {M : jm} {g v : Int} {a : Nat} (h : RG1x M g) (ha : (618 : Nat) ≠ a) : RG1x (ju M a g v) g := fun j hj hg => (h j hj hg).sl hg ha
theorem RGs.hb {M : jm} {j g i v : Int} (h : RGs M j) (hj : j ≠ g) (h0 : 400 * g ≤ i) (h1 : i < 400 * g + 400) : RGs (ju M 618 i v) j := by
  unfold RGs at h ⊢
  rw [ju_c M v (by decide : (606 : Nat) ≠ 618), ju_c M v (by decide : (613 : Nat) ≠ 618), ju_c M v (by decide : (617 : Nat) ≠ 618), ju_c M v (by decide : (621 : Nat) ≠ 618), ju_c M v (by decide : (619 : Nat) ≠ 618), ju_c M v (by decide : (620 : Nat) ≠ 618), ju_c M v (by decide : (607 : Nat) ≠ 618)]
  intro u
  obtain ⟨a1, a2⟩ := h u
  refine ⟨a1, fun w => ?_⟩
  obtain ⟨b1, b2, b3, b4, b5, b6⟩ := a2 w
  refine ⟨b1, b2, b3, b4, b5, fun k => ?_⟩
  rw [ju_i M v (by omega)]
  exact b6 k
theorem RG1x.b {M : jm} {g i v : Int} (h : RG1x M g) (h0 : 400 * g ≤ i) (h1 : i < 400 * g + 400) : RG1x (ju M 618 i v) g := fun j hj hg => (h j hj hg).hb hg h0 h1
theorem RG1.off {M : jm} (h : RG1 M) (g : Int) : RG1 (ju M 606 g 0) := RG1.mk (RG1x.s (h.x g) (by decide)) (fun u => absurd (ju_same M 606 g 0) u)
theorem RGs.new {M : jm} {g s : Int} (e : M 613 g = s) (h : 1 ≤ s) (e2 : M 617 g = -1) : RGs M g := fun _ => ⟨by rw [e]; exact h, fun w => absurd e2 w⟩
theorem RG1.s613 {M : jm} (h : RG1 M) {g v : Int} (hg : 0 ≤ g) (hv : 1 ≤ v) : RG1 (ju M 613 g v) := RG1.mk (RG1x.s (h.x g) (by decide)) (by
  have q := h g hg
  unfold RGs at q ⊢
  rw [ju_c M v (by decide : (606 : Nat) ≠ 613), ju_same, ju_c M v (by decide : (617 : Nat) ≠ 613), ju_c M v (by decide : (621 : Nat) ≠ 613), ju_c M v (by decide : (619 : Nat) ≠ 613), ju_c M v (by decide : (620 : Nat) ≠ 613), ju_c M v (by decide : (607 : Nat) ≠ 613), ju_c M v (by decide : (618 : Nat) ≠ 613)]
  exact fun u => ⟨hv, (q u).2⟩)
theorem RGs.mk' {M : jm} {g s hd nt pa ah k b : Int} (e1 : M 613 g = s) (e2 : M 617 g = hd) (e3 : M 621 g = nt) (e4 : M 619 g = pa) (e5 : M 620 g = ah) (e6 : M 607 g = k) (e7 : M 618 (400 * g + nt) = b) (h1 : 1 ≤ s) (h2 : 8 ≤ hd) (h3 : 0 ≤ nt) (h4 : nt ≤ 380) (h5 : pa ≤ 392) (h6 : ah ≤ 399) (h7 : k = 2 → nt < hd ∧ nt + 4 * (b % 16) ≤ 400) : RGs M g := by
  unfold RGs
  rw [e1, e2, e3, e4, e5, e6, e7]
  exact fun _ => ⟨h1, fun _ => ⟨h2, h3, h4, h5, h6, h7⟩⟩
noncomputable def BF (M : jm) (g p k : Int) : Prop := M 607 g = 2 → M 621 g < k → M 601 (400 * p + M 621 g) = M 618 (400 * g + M 621 g)
theorem BF.w {M : jm} {g p n i v : Int} (h : BF M g p n) (hi : M 607 g = 2 → i ≠ 400 * p + M 621 g) : BF (ju M 601 i v) g p n := by
  unfold BF at h ⊢
  rw [ju_c M v (by decide : (607 : Nat) ≠ 601), ju_c M v (by decide : (621 : Nat) ≠ 601), ju_c M v (by decide : (618 : Nat) ≠ 601)]
  intro a b
  rw [ju_i M v (fun e => hi a e.symm)]
  exact h a b
theorem BF.step {M : jm} {g p k v : Int} (h : BF M g p k) (e : M 618 (400 * g + k) = v) : BF (ju M 601 (400 * p + k) v) g p (k + 1) := by
  unfold BF at h ⊢
  rw [ju_c M v (by decide : (607 : Nat) ≠ 601), ju_c M v (by decide : (621 : Nat) ≠ 601), ju_c M v (by decide : (618 : Nat) ≠ 601)]
  intro a b
  by_cases q : M 621 g = k
  · rw [q, ju_same, e]
  · rw [ju_i M v (by omega)]
    exact h a (by omega)
end
section
/-! ===== the reference: contracts, a ===== -/
section RT
variable {A : Nat → Option (Nat × (Nat → Int32))} {M : jm} {Q : Option Value → jm → Prop}
theorem c_within {x a b : Int} (h_x : -9223372036854775808 ≤ x ∧ x ≤ 9223372036854775807) (h_a : -9223372036854775808 ≤ a ∧ a ≤ 9223372036854775807) (h_b : -9223372036854775808 ≤ b ∧ b ≤ 9223372036854775807) (k1 : a ≤ x → x ≤ b → Q (some (.int (Int32.ofInt 1))) M) (k0 : ¬ (a ≤ x ∧ x ≤ b) → Q (some (.int (Int32.ofInt 0))) M) : jc A 1 242 [.long (Int64.ofInt (x)), .long (Int64.ofInt (a)), .long (Int64.ofInt (b))] M Q := by
  refine jc_of (m := xm_242) rfl (Nat.le_of_ble_eq_true rfl) rfl ?_
  refine jr.lload_n rfl rfl ?_
  refine jr.lload_n rfl rfl ?_
  refine jr.lcmp_lt rfl rfl rfl (by omega) (by omega) (fun h2 => ?_) (fun h2 => ?_)
  · refine jr.iconst rfl ?_
    exact jr.ireturn rfl rfl rfl (k0 (by omega))
  · refine jr.lload_n rfl rfl ?_
    refine jr.lload rfl rfl ?_
    refine jr.lcmp_gt rfl rfl rfl (by omega) (by omega) (fun h9 => ?_) (fun h9 => ?_)
    · refine jr.iconst rfl ?_
      exact jr.ireturn rfl rfl rfl (k0 (by omega))
    · refine jr.iconst rfl ?_
      refine jr.goto rfl rfl ?_
      exact jr.ireturn rfl rfl rfl (k1 (by omega) (by omega))
theorem c_isPN {x : Int} (h_x : -2147483648 ≤ x ∧ x ≤ 2147483647) (k1 : 0 ≤ x → x ≤ 23 → Q (some (.int (Int32.ofInt 1))) M) (k0 : ¬ (0 ≤ x ∧ x ≤ 23) → Q (some (.int (Int32.ofInt 0))) M) : jc A 2 246 [.int (Int32.ofInt (x))] M Q := by
  refine jc_of (m := xm_246) rfl (Nat.le_of_ble_eq_true rfl) rfl ?_
  refine jr.iload_n rfl rfl ?_
  refine jr.i2l rfl (by omega) ?_
  refine jr.lconst (x := 0) rfl (by decide) ?_
  refine jr.ldc2 (x := 23) rfl rfl (by decide) ?_
  refine jr_s rfl rfl (Or.inl rfl) ⟨Nat.le_of_ble_eq_true rfl, Nat.le_of_ble_eq_true rfl⟩ rfl rfl (jc.deep (c_within (by omega) (by omega) (by omega) (fun l6 u6 => ?_) (fun n6 => ?_)) (Nat.le_of_ble_eq_true rfl))
  · exact jr.ireturn rfl rfl rfl (k1 (by omega) (by omega))
  · exact jr.ireturn rfl rfl rfl (k0 (by omega))
theorem c_isThere (hI_M : RI M) {x : Int} (h_x : -2147483648 ≤ x ∧ x ≤ 2147483647) (k1 : 0 ≤ x → x ≤ 23 → M 600 x ≠ -1 → Q (some (.int (Int32.ofInt 1))) M) (k0 : ¬ (0 ≤ x ∧ x ≤ 23 ∧ M 600 x ≠ -1) → Q (some (.int (Int32.ofInt 0))) M) : jc A 3 247 [.ref (598), .int (Int32.ofInt (x))] M Q := by
  refine jc_of (m := xm_247) rfl (Nat.le_of_ble_eq_true rfl) rfl ?_
  refine jr.iload_n rfl rfl ?_
  refine jr_s rfl rfl (Or.inl rfl) ⟨Nat.le_of_ble_eq_true rfl, Nat.le_of_ble_eq_true rfl⟩ rfl rfl (jc.deep (c_isPN (by omega) (fun l1 u1 => ?_) (fun n1 => ?_)) (Nat.le_of_ble_eq_true rfl))
  · refine jr.if_eq rfl rfl (by first | exact rgl rfl | omega) (fun h => absurd h (by decide)) (fun _ => ?_)
    refine jr.aload_n rfl rfl ?_
    refine jr.getf (i := 3) (v := .ref 600) rfl rfl (nlt rfl) rfl (nlt rfl) rfl rfl rfl rfl ?_
    refine jr.iload_n rfl rfl ?_
    obtain ⟨v1, e1⟩ : ∃ z, M 600 x = z := ⟨_, rfl⟩
    have b1 : (-1) ≤ v1 ∧ v1 ≤ 400 := by rw [← e1]; exact (by have q := hI_M 600 x (Nat.le_of_ble_eq_true rfl); rw [xri_row rfl rfl] at q; exact q)
    refine jr.iald (i := x) (x := v1) rfl (nlt rfl) rfl (Nat.le_of_ble_eq_true rfl) (by omega) (by omega) e1 ?_
    refine jr.iconst rfl ?_
    refine jr.icmp_eq rfl rfl (by first | (refine rgb (by assumption) ?_; exact rfl) | omega) (rgl rfl) (fun h14 => ?_) (fun h14 => ?_)
    · refine jr.iconst rfl ?_
      exact jr.ireturn rfl rfl rfl (k0 (by omega))
    · have sx14 : (0 : Int) ≤ v1 := by omega
      clear h14
      refine jr.iconst rfl ?_
      refine jr.goto rfl rfl ?_
      exact jr.ireturn rfl rfl rfl (k1 (by omega) (by omega) (by omega))
  · refine jr.if_eq rfl rfl (by first | exact rgl rfl | omega) (fun _ => ?_) (fun h => absurd (by decide) h)
    refine jr.iconst rfl ?_
    exact jr.ireturn rfl rfl rfl (k0 (by omega))
end RT
theorem r_one {A : Nat → Option (Nat × (Nat → Int32))} {Q : Option Value → jm → Prop} {T : jm} {M : jm} (hI_M : RI M) (hH_M : RH M) (hS_M : RF M) (ht_M : Kp T M) {x : Int} (h_x : 0 ≤ x ∧ x ≤ 23) {i : Int} (h_i : 0 ≤ i ∧ i ≤ 399) (q : ∀ (r : Int), 0 ≤ r ∧ r ≤ 255 → r = M 601 (400 * x + i) → Q (some (.int (Int32.ofInt r))) M) : jc A 1 253 [.ref (598), .int (Int32.ofInt (x)), .int (Int32.ofInt (i))] M Q := by
  refine jc_of (m := xm_253) rfl (Nat.le_of_ble_eq_true rfl) rfl ?_
  refine jr.aload_n rfl rfl ?_
  refine jr.getf (i := 4) (v := .ref 601) rfl rfl (nlt rfl) rfl (nlt rfl) rfl rfl rfl rfl ?_
  refine jr.sipush rfl (by decide) ?_
  refine jr.iload_n rfl rfl ?_
  refine jr.imul rfl ?_
  refine jr.iload_n rfl rfl ?_
  refine jr.iadd rfl ?_
  obtain ⟨v1, e1⟩ : ∃ z, M 601 ((400 * x) + i) = z := ⟨_, rfl⟩
  have b1 : 0 ≤ v1 ∧ v1 ≤ 255 := by rw [← e1]; exact (by have q := hI_M 601 ((400 * x) + i) (by decide); rw [xri_row rfl rfl] at q; exact q)
  refine jr.iald (i := ((400 * x) + i)) (x := v1) rfl (nlt rfl) rfl (Nat.le_of_ble_eq_true rfl) (by omega) (by omega) e1 ?_
  exact jr.ireturn rfl rfl rfl (q _ (by omega) (by omega))
theorem r_two {A : Nat → Option (Nat × (Nat → Int32))} {Q : Option Value → jm → Prop} {T : jm} {M : jm} (hI_M : RI M) (hH_M : RH M) (hS_M : RF M) (ht_M : Kp T M) {x : Int} (h_x : 0 ≤ x ∧ x ≤ 23) {i : Int} (h_i : 0 ≤ i ∧ i ≤ 398) (q : ∀ (r : Int), 0 ≤ r ∧ r ≤ 65535 → Q (some (.int (Int32.ofInt r))) M) : jc A 2 254 [.ref (598), .int (Int32.ofInt (x)), .int (Int32.ofInt (i))] M Q := by
  refine jc_of (m := xm_254) rfl (Nat.le_of_ble_eq_true rfl) rfl ?_
  refine jr.aload_n rfl rfl ?_
  refine jr.iload_n rfl rfl ?_
  refine jr.iload_n rfl rfl ?_
  refine jr_v rfl rfl (Or.inl rfl) rfl rfl (nlt rfl) rfl ⟨rfl, Nat.le_of_ble_eq_true rfl, Nat.le_of_ble_eq_true rfl⟩ rfl (jc.deep (r_one hI_M hH_M hS_M ht_M (by omega) (by omega)  (fun r1 z1 w1_0 => ?_)) (Nat.le_of_ble_eq_true rfl))
  refine jr.bipush rfl (jbp _ (nlt rfl)) ?_
  refine jr.ishl rfl ?_
  have b2 : j_shl r1 8 = r1 * 256 := j_shl_ex 8 (by decide) (by omega) (by omega)
  generalize j_shl r1 8 = v2 at b2 ⊢
  refine jr.aload_n rfl rfl ?_
  refine jr.iload_n rfl rfl ?_
  refine jr.iload_n rfl rfl ?_
  refine jr.iconst rfl ?_
  refine jr.iadd rfl ?_
  refine jr_v rfl rfl (Or.inl rfl) rfl rfl (nlt rfl) rfl ⟨rfl, Nat.le_of_ble_eq_true rfl, Nat.le_of_ble_eq_true rfl⟩ rfl (jc.deep (r_one hI_M hH_M hS_M ht_M (by omega) (by omega)  (fun r3 z3 w3_0 => ?_)) (Nat.le_of_ble_eq_true rfl))
  refine jr.ior rfl ?_
  have b4 : 0 ≤ j_or v2 r3 ∧ j_or v2 r3 < 65536 := j_or_lt 16 (by decide) (by omega) (by omega)
  generalize j_or v2 r3 = v4 at b4 ⊢
  exact jr.ireturn rfl rfl rfl (q _ (by omega) )
theorem r_four {A : Nat → Option (Nat × (Nat → Int32))} {Q : Option Value → jm → Prop} {T : jm} {M : jm} (hI_M : RI M) (hH_M : RH M) (hS_M : RF M) (ht_M : Kp T M) {x : Int} (h_x : 0 ≤ x ∧ x ≤ 23) {i : Int} (h_i : 0 ≤ i ∧ i ≤ 396) (q : ∀ (r : Int), (-9223372036854775808) ≤ r ∧ r ≤ 9223372036854775807 → Q (some (.long (Int64.ofInt r))) M) : jc A 3 255 [.ref (598), .int (Int32.ofInt (x)), .int (Int32.ofInt (i))] M Q := by
  refine jc_of (m := xm_255) rfl (Nat.le_of_ble_eq_true rfl) rfl ?_
  refine jr.aload_n rfl rfl ?_
  refine jr.iload_n rfl rfl ?_
  refine jr.iload_n rfl rfl ?_
  refine jr_v rfl rfl (Or.inl rfl) rfl rfl (nlt rfl) rfl ⟨rfl, Nat.le_of_ble_eq_true rfl, Nat.le_of_ble_eq_true rfl⟩ rfl (jc.deep (r_two hI_M hH_M hS_M ht_M (by omega) (by omega)  (fun r1 z1  => ?_)) (Nat.le_of_ble_eq_true rfl))
  refine jr.i2l rfl (by omega) ?_
  refine jr.bipush rfl (jbp _ (nlt rfl)) ?_
  refine jr.lshl rfl ?_
  have b2 : -9223372036854775808 ≤ jl_shl r1 16 ∧ jl_shl r1 16 ≤ 9223372036854775807 := jbl_any _
  generalize jl_shl r1 16 = v2 at b2 ⊢
  refine jr.aload_n rfl rfl ?_
  refine jr.iload_n rfl rfl ?_
  refine jr.iload_n rfl rfl ?_
  refine jr.iconst rfl ?_
  refine jr.iadd rfl ?_
  refine jr_v rfl rfl (Or.inl rfl) rfl rfl (nlt rfl) rfl ⟨rfl, Nat.le_of_ble_eq_true rfl, Nat.le_of_ble_eq_true rfl⟩ rfl (jc.deep (r_two hI_M hH_M hS_M ht_M (by omega) (by omega)  (fun r3 z3  => ?_)) (Nat.le_of_ble_eq_true rfl))
  refine jr.i2l rfl (by omega) ?_
  refine jr.lor rfl ?_
  have b4 : -9223372036854775808 ≤ jl_or v2 r3 ∧ jl_or v2 r3 ≤ 9223372036854775807 := jbl_any _
  generalize jl_or v2 r3 = v4 at b4 ⊢
  exact jr.lreturn rfl rfl (q _ (by omega) )
theorem r_eight {A : Nat → Option (Nat × (Nat → Int32))} {Q : Option Value → jm → Prop} {T : jm} {M : jm} (hI_M : RI M) (hH_M : RH M) (hS_M : RF M) (ht_M : Kp T M) {x : Int} (h_x : 0 ≤ x ∧ x ≤ 23) {i : Int} (h_i : 0 ≤ i ∧ i ≤ 392) (q : ∀ (r : Int), (-9223372036854775808) ≤ r ∧ r ≤ 9223372036854775807 → Q (some (.long (Int64.ofInt r))) M) : jc A 4 256 [.ref (598), .int (Int32.ofInt (x)), .int (Int32.ofInt (i))] M Q := by
  refine jc_of (m := xm_256) rfl (Nat.le_of_ble_eq_true rfl) rfl ?_
  refine jr.aload_n rfl rfl ?_
  refine jr.iload_n rfl rfl ?_
  refine jr.iload_n rfl rfl ?_
  refine jr_v rfl rfl (Or.inl rfl) rfl rfl (nlt rfl) rfl ⟨rfl, Nat.le_of_ble_eq_true rfl, Nat.le_of_ble_eq_true rfl⟩ rfl (jc.deep (r_four hI_M hH_M hS_M ht_M (by omega) (by omega)  (fun r1 z1  => ?_)) (Nat.le_of_ble_eq_true rfl))
  refine jr.bipush rfl (jbp _ (nlt rfl)) ?_
  refine jr.lshl rfl ?_
  have b2 : -9223372036854775808 ≤ jl_shl r1 32 ∧ jl_shl r1 32 ≤ 9223372036854775807 := jbl_any _
  generalize jl_shl r1 32 = v2 at b2 ⊢
  refine jr.aload_n rfl rfl ?_
  refine jr.iload_n rfl rfl ?_
  refine jr.iload_n rfl rfl ?_
  refine jr.iconst rfl ?_
  refine jr.iadd rfl ?_
  refine jr_v rfl rfl (Or.inl rfl) rfl rfl (nlt rfl) rfl ⟨rfl, Nat.le_of_ble_eq_true rfl, Nat.le_of_ble_eq_true rfl⟩ rfl (jc.deep (r_four hI_M hH_M hS_M ht_M (by omega) (by omega)  (fun r3 z3  => ?_)) (Nat.le_of_ble_eq_true rfl))
  refine jr.lor rfl ?_
  have b4 : -9223372036854775808 ≤ jl_or v2 r3 ∧ jl_or v2 r3 ≤ 9223372036854775807 := jbl_any _
  generalize jl_or v2 r3 = v4 at b4 ⊢
  exact jr.lreturn rfl rfl (q _ (by omega) )
end
