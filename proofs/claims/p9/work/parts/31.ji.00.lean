section
/-! ===== rules: an instruction, a row ===== -/
section JI
variable {A : Nat → Option (Nat × (Nat → Int32))} {D : Nat} {m : ix_M} {pc : Nat} {ls ls' : ix_L} {st : List Value} {M : jm} {Q : Option Value → jm → Prop}
/-- the payloads of what isn't plain arithmetic -/
noncomputable def j_and (x y : Int) : Int := (Int32.ofInt x &&& Int32.ofInt y).toInt
noncomputable def j_or (x y : Int) : Int := (Int32.ofInt x ||| Int32.ofInt y).toInt
noncomputable def j_shl (x y : Int) : Int := (Int32.ofInt x <<< (Int32.ofInt y &&& 31)).toInt
noncomputable def j_shr (x y : Int) : Int := (Int32.ofInt x >>> (Int32.ofInt y &&& 31)).toInt
noncomputable def j_ushr (x y : Int) : Int := ((Int32.ofInt x).toUInt32 >>> ((Int32.ofInt y).toUInt32 &&& Int32.toUInt32 31)).toInt32.toInt
noncomputable def jl_and (x y : Int) : Int := (Int64.ofInt x &&& Int64.ofInt y).toInt
noncomputable def jl_or (x y : Int) : Int := (Int64.ofInt x ||| Int64.ofInt y).toInt
noncomputable def jl_xor (x y : Int) : Int := (Int64.ofInt x ^^^ Int64.ofInt y).toInt
noncomputable def jl_shl (x y : Int) : Int := (Int64.ofInt x <<< ((Int32.ofInt y).toInt64 &&& 63)).toInt
noncomputable def jl_shr (x y : Int) : Int := (Int64.ofInt x >>> ((Int32.ofInt y).toInt64 &&& 63)).toInt
noncomputable def jl_ushr (x y : Int) : Int := ((Int64.ofInt x).toUInt64 >>> ((Int32.ofInt y).toInt64.toUInt64 &&& Int64.toUInt64 63)).toInt64.toInt
noncomputable def jl_div (x y : Int) : Int := (Int64.ofInt x / Int64.ofInt y).toInt
noncomputable def jl_rem (x y : Int) : Int := (Int64.ofInt x - Int64.ofInt x / Int64.ofInt y * Int64.ofInt y).toInt
noncomputable def j_div (x y : Int) : Int := (Int32.ofInt x / Int32.ofInt y).toInt
noncomputable def j_rem (x y : Int) : Int := (Int32.ofInt x - Int32.ofInt x / Int32.ofInt y * Int32.ofInt y).toInt
noncomputable def j_w (x : Int) : Int := (Int32.ofInt x).toInt
noncomputable def jl_w (x : Int) : Int := (Int64.ofInt x).toInt
noncomputable def j_b (x : Int) : Int := (Int32.ofInt x).toInt8.toInt32.toInt
noncomputable def j_s (x : Int) : Int := (Int32.ofInt x).toInt16.toInt32.toInt
noncomputable def j_c (x : Int) : Int := ((Int32.ofInt x).toUInt32 % 65536).toInt32.toInt
noncomputable def jl_cmp (x y : Int) : Int := (lg_cmp (Int64.ofInt x) (Int64.ofInt y)).toInt
theorem j_w_id {x : Int} (h : -2147483648 ≤ x ∧ x ≤ 2147483647) : j_w x = x := Int32.toInt_ofInt_of_le (by omega) (by omega)
theorem jl_w_id {x : Int} (h : -9223372036854775808 ≤ x ∧ x ≤ 9223372036854775807) : jl_w x = x := Int64.toInt_ofInt_of_le (by omega) (by omega)
theorem jr.iconst {n : Int} (hi : m.2.2.2.2.2.2 pc = some (.iconst n)) (k : jr A D m (pc + 1) ls (.int (Int32.ofInt n) :: st) M Q) : jr A D m pc ls st M Q := jr_sem hi (fun f => fxk_iconst rfl) k
theorem jr.bipush {n : Int} (hi : m.2.2.2.2.2.2 pc = some (.bipush n)) (hv : (Int8.ofInt n).toInt32 = Int32.ofInt n) (k : jr A D m (pc + 2) ls (.int (Int32.ofInt n) :: st) M Q) : jr A D m pc ls st M Q := jr_sem hi (fun f => fxk_bipush (by rw [← hv]; rfl)) k
theorem jr.sipush {n : Int} (hi : m.2.2.2.2.2.2 pc = some (.sipush n)) (hv : (Int16.ofInt n).toInt32 = Int32.ofInt n) (k : jr A D m (pc + 3) ls (.int (Int32.ofInt n) :: st) M Q) : jr A D m pc ls st M Q := jr_sem hi (fun f => fxk_sipush (by rw [← hv]; rfl)) k
theorem jr.lconst {n : Fin 2} {x : Int} (hi : m.2.2.2.2.2.2 pc = some (.lconst n)) (hv : Int64.ofNat (n : Nat) = Int64.ofInt x) (k : jr A D m (pc + 1) ls (.long (Int64.ofInt x) :: st) M Q) : jr A D m pc ls st M Q := jr_sem hi (fun f => fxk_lconst (by rw [← hv]; rfl)) k
theorem jr.ldc {idx : Nat} {c : Int32} {x : Int} (hi : m.2.2.2.2.2.2 pc = some (.ldc idx)) (hk : ix_tK (xT A) m.1 idx = some (.int c)) (hv : c = Int32.ofInt x) (k : jr A D m (pc + 2) ls (.int (Int32.ofInt x) :: st) M Q) : jr A D m pc ls st M Q := jr_sem hi (fun f => fxk_ldc (by unfold fx_ldc; rw [hk, hv])) k
theorem jr.ldcw {idx : Nat} {c : Int32} {x : Int} (hi : m.2.2.2.2.2.2 pc = some (.ldc_w idx)) (hk : ix_tK (xT A) m.1 idx = some (.int c)) (hv : c = Int32.ofInt x) (k : jr A D m (pc + 3) ls (.int (Int32.ofInt x) :: st) M Q) : jr A D m pc ls st M Q := jr_sem hi (fun f => fxk_ldc_w (by unfold fx_ldc_w; rw [hk, hv])) k
theorem jr.ldc2 {idx : Nat} {c : Int64} {x : Int} (hi : m.2.2.2.2.2.2 pc = some (.ldc2_w idx)) (hk : ix_tK (xT A) m.1 idx = some (.long c)) (hv : c = Int64.ofInt x) (k : jr A D m (pc + 3) ls (.long (Int64.ofInt x) :: st) M Q) : jr A D m pc ls st M Q := jr_sem hi (fun f => fxk_ldc2_w (by unfold fx_ldc2_w; rw [hk, hv])) k
theorem jr.iload {k : Nat} {x : Int32} (hi : m.2.2.2.2.2.2 pc = some (.iload k)) (hl : ix_ld ls k = some (.int x)) (kk : jr A D m (pc + 2) ls (.int x :: st) M Q) : jr A D m pc ls st M Q := jr_sem hi (fun f => fxk_iload (by unfold fx_iload; rw [hl])) kk
theorem jr.iload_n {k : Fin 4} {x : Int32} (hi : m.2.2.2.2.2.2 pc = some (.iload_n k)) (hl : ix_ld ls k.val = some (.int x)) (kk : jr A D m (pc + 1) ls (.int x :: st) M Q) : jr A D m pc ls st M Q := jr_sem hi (fun f => fxk_iload_n (by unfold fx_iload; rw [hl])) kk
theorem jr.istore {k : Nat} {x : Int32} (hi : m.2.2.2.2.2.2 pc = some (.istore k)) (hk : k < m.2.2.2.1) (hl : ix_st1 ls k (.int x) = ls') (kk : jr A D m (pc + 2) ls' st M Q) : jr A D m pc ls (.int x :: st) M Q := jr_sem hi (fun f => fxk_istore (by unfold fx_istore; simp only [if_pos hk, hl])) kk
theorem jr.istore_n {k : Fin 4} {x : Int32} (hi : m.2.2.2.2.2.2 pc = some (.istore_n k)) (hk : k.val < m.2.2.2.1) (hl : ix_st1 ls k.val (.int x) = ls') (kk : jr A D m (pc + 1) ls' st M Q) : jr A D m pc ls (.int x :: st) M Q := jr_sem hi (fun f => fxk_istore_n (by unfold fx_istore; simp only [if_pos hk, hl])) kk
theorem jr.lload {k : Nat} {x : Int64} (hi : m.2.2.2.2.2.2 pc = some (.lload k)) (hl : ix_ld ls k = some (.long x)) (kk : jr A D m (pc + 2) ls (.long x :: st) M Q) : jr A D m pc ls st M Q := jr_sem hi (fun f => fxk_lload (by unfold fx_lload; rw [hl])) kk
theorem jr.lload_n {k : Fin 4} {x : Int64} (hi : m.2.2.2.2.2.2 pc = some (.lload_n k)) (hl : ix_ld ls k.val = some (.long x)) (kk : jr A D m (pc + 1) ls (.long x :: st) M Q) : jr A D m pc ls st M Q := jr_sem hi (fun f => fxk_lload_n (by unfold fx_lload; rw [hl])) kk
theorem jr.lstore {k : Nat} {x : Int64} (hi : m.2.2.2.2.2.2 pc = some (.lstore k)) (hk : k + 1 < m.2.2.2.1) (hl : ix_st2 ls k (.long x) = ls') (kk : jr A D m (pc + 2) ls' st M Q) : jr A D m pc ls (.long x :: st) M Q := jr_sem hi (fun f => fxk_lstore (by unfold fx_lstore; simp only [if_pos hk, hl])) kk
theorem jr.lstore_n {k : Fin 4} {x : Int64} (hi : m.2.2.2.2.2.2 pc = some (.lstore_n k)) (hk : k.val + 1 < m.2.2.2.1) (hl : ix_st2 ls k.val (.long x) = ls') (kk : jr A D m (pc + 1) ls' st M Q) : jr A D m pc ls (.long x :: st) M Q := jr_sem hi (fun f => fxk_lstore_n (by unfold fx_lstore; simp only [if_pos hk, hl])) kk
theorem jr.aload {k : Nat} {x : Nat} (hi : m.2.2.2.2.2.2 pc = some (.aload k)) (hl : ix_ld ls k = some (.ref x)) (kk : jr A D m (pc + 2) ls (.ref x :: st) M Q) : jr A D m pc ls st M Q := jr_sem hi (fun f => fxk_aload (by unfold fx_aload; rw [hl])) kk
theorem jr.aload_n {k : Fin 4} {x : Nat} (hi : m.2.2.2.2.2.2 pc = some (.aload_n k)) (hl : ix_ld ls k.val = some (.ref x)) (kk : jr A D m (pc + 1) ls (.ref x :: st) M Q) : jr A D m pc ls st M Q := jr_sem hi (fun f => fxk_aload_n (by unfold fx_aload; rw [hl])) kk
theorem jr.astore {k : Nat} {x : Nat} (hi : m.2.2.2.2.2.2 pc = some (.astore k)) (hk : k < m.2.2.2.1) (hl : ix_st1 ls k (.ref x) = ls') (kk : jr A D m (pc + 2) ls' st M Q) : jr A D m pc ls (.ref x :: st) M Q := jr_sem hi (fun f => fxk_astore (by unfold fx_astore; simp only [if_pos hk, hl])) kk
theorem jr.astore_n {k : Fin 4} {x : Nat} (hi : m.2.2.2.2.2.2 pc = some (.astore_n k)) (hk : k.val < m.2.2.2.1) (hl : ix_st1 ls k.val (.ref x) = ls') (kk : jr A D m (pc + 1) ls' st M Q) : jr A D m pc ls (.ref x :: st) M Q := jr_sem hi (fun f => fxk_astore_n (by unfold fx_astore; simp only [if_pos hk, hl])) kk
theorem jr.iinc {k : Nat} {n x : Int} (hi : m.2.2.2.2.2.2 pc = some (.iinc k n)) (h0 : ix_ld ls k = some (.int (Int32.ofInt x))) (hk : k < m.2.2.2.1) (hl : ix_st1 ls k (.int (Int32.ofInt (x + n))) = ls') (kk : jr A D m (pc + 3) ls' st M Q) : jr A D m pc ls st M Q := jr_sem hi (fun f => fxk_iinc (by unfold fx_iinc; rw [h0]; simp only [if_pos hk, ← Int32.ofInt_add, hl])) kk
theorem jr.iadd {x y : Int} (hi : m.2.2.2.2.2.2 pc = some .iadd) (k : jr A D m (pc + 1) ls (.int (Int32.ofInt (x + y)) :: st) M Q) : jr A D m pc ls (.int (Int32.ofInt y) :: .int (Int32.ofInt x) :: st) M Q := jr_sem hi (fun f => fxk_iadd (by rw [Int32.ofInt_add]; rfl)) k
theorem jr.isub {x y : Int} (hi : m.2.2.2.2.2.2 pc = some .isub) (k : jr A D m (pc + 1) ls (.int (Int32.ofInt (x - y)) :: st) M Q) : jr A D m pc ls (.int (Int32.ofInt y) :: .int (Int32.ofInt x) :: st) M Q := jr_sem hi (fun f => fxk_isub (by rw [Int32.ofInt_sub]; rfl)) k
theorem jr.imul {x y : Int} (hi : m.2.2.2.2.2.2 pc = some .imul) (k : jr A D m (pc + 1) ls (.int (Int32.ofInt (x * y)) :: st) M Q) : jr A D m pc ls (.int (Int32.ofInt y) :: .int (Int32.ofInt x) :: st) M Q := jr_sem hi (fun f => fxk_imul (by rw [Int32.ofInt_mul]; rfl)) k
theorem jr.ladd {x y : Int} (hi : m.2.2.2.2.2.2 pc = some .ladd) (k : jr A D m (pc + 1) ls (.long (Int64.ofInt (x + y)) :: st) M Q) : jr A D m pc ls (.long (Int64.ofInt y) :: .long (Int64.ofInt x) :: st) M Q := jr_sem hi (fun f => fxk_ladd (by rw [Int64.ofInt_add]; rfl)) k
theorem jr.lsub {x y : Int} (hi : m.2.2.2.2.2.2 pc = some .lsub) (k : jr A D m (pc + 1) ls (.long (Int64.ofInt (x - y)) :: st) M Q) : jr A D m pc ls (.long (Int64.ofInt y) :: .long (Int64.ofInt x) :: st) M Q := jr_sem hi (fun f => fxk_lsub (by rw [Int64.ofInt_sub]; rfl)) k
theorem jr.lmul {x y : Int} (hi : m.2.2.2.2.2.2 pc = some .lmul) (k : jr A D m (pc + 1) ls (.long (Int64.ofInt (x * y)) :: st) M Q) : jr A D m pc ls (.long (Int64.ofInt y) :: .long (Int64.ofInt x) :: st) M Q := jr_sem hi (fun f => fxk_lmul (by rw [Int64.ofInt_mul]; rfl)) k
theorem jr.ineg {x : Int} (hi : m.2.2.2.2.2.2 pc = some .ineg) (k : jr A D m (pc + 1) ls (.int (Int32.ofInt (-x)) :: st) M Q) : jr A D m pc ls (.int (Int32.ofInt x) :: st) M Q := jr_sem hi (fun f => fxk_ineg (by rw [Int32.ofInt_neg]; rfl)) k
theorem jr.lneg {x : Int} (hi : m.2.2.2.2.2.2 pc = some .lneg) (k : jr A D m (pc + 1) ls (.long (Int64.ofInt (-x)) :: st) M Q) : jr A D m pc ls (.long (Int64.ofInt x) :: st) M Q := jr_sem hi (fun f => fxk_lneg (by rw [Int64.ofInt_neg]; rfl)) k
theorem jr.iand {x y : Int} (hi : m.2.2.2.2.2.2 pc = some .iand) (k : jr A D m (pc + 1) ls (.int (Int32.ofInt (j_and x y)) :: st) M Q) : jr A D m pc ls (.int (Int32.ofInt y) :: .int (Int32.ofInt x) :: st) M Q := jr_sem hi (fun f => fxk_iand (by unfold j_and; rw [Int32.ofInt_toInt]; rfl)) k
theorem jr.ior {x y : Int} (hi : m.2.2.2.2.2.2 pc = some .ior) (k : jr A D m (pc + 1) ls (.int (Int32.ofInt (j_or x y)) :: st) M Q) : jr A D m pc ls (.int (Int32.ofInt y) :: .int (Int32.ofInt x) :: st) M Q := jr_sem hi (fun f => fxk_ior (by unfold j_or; rw [Int32.ofInt_toInt]; rfl)) k
theorem jr.ishl {x y : Int} (hi : m.2.2.2.2.2.2 pc = some .ishl) (k : jr A D m (pc + 1) ls (.int (Int32.ofInt (j_shl x y)) :: st) M Q) : jr A D m pc ls (.int (Int32.ofInt y) :: .int (Int32.ofInt x) :: st) M Q := jr_sem hi (fun f => fxk_ishl (by unfold j_shl; rw [Int32.ofInt_toInt]; rfl)) k
theorem jr.ishr {x y : Int} (hi : m.2.2.2.2.2.2 pc = some .ishr) (k : jr A D m (pc + 1) ls (.int (Int32.ofInt (j_shr x y)) :: st) M Q) : jr A D m pc ls (.int (Int32.ofInt y) :: .int (Int32.ofInt x) :: st) M Q := jr_sem hi (fun f => fxk_ishr (by unfold j_shr; rw [Int32.ofInt_toInt]; rfl)) k
theorem jr.iushr {x y : Int} (hi : m.2.2.2.2.2.2 pc = some .iushr) (k : jr A D m (pc + 1) ls (.int (Int32.ofInt (j_ushr x y)) :: st) M Q) : jr A D m pc ls (.int (Int32.ofInt y) :: .int (Int32.ofInt x) :: st) M Q := jr_sem hi (fun f => fxk_iushr (by unfold j_ushr; rw [Int32.ofInt_toInt]; rfl)) k
theorem jr.land {x y : Int} (hi : m.2.2.2.2.2.2 pc = some .land) (k : jr A D m (pc + 1) ls (.long (Int64.ofInt (jl_and x y)) :: st) M Q) : jr A D m pc ls (.long (Int64.ofInt y) :: .long (Int64.ofInt x) :: st) M Q := jr_sem hi (fun f => fxk_land (by unfold jl_and; rw [Int64.ofInt_toInt]; rfl)) k
theorem jr.lor {x y : Int} (hi : m.2.2.2.2.2.2 pc = some .lor) (k : jr A D m (pc + 1) ls (.long (Int64.ofInt (jl_or x y)) :: st) M Q) : jr A D m pc ls (.long (Int64.ofInt y) :: .long (Int64.ofInt x) :: st) M Q := jr_sem hi (fun f => fxk_lor (by unfold jl_or; rw [Int64.ofInt_toInt]; rfl)) k
theorem jr.lxor {x y : Int} (hi : m.2.2.2.2.2.2 pc = some .lxor) (k : jr A D m (pc + 1) ls (.long (Int64.ofInt (jl_xor x y)) :: st) M Q) : jr A D m pc ls (.long (Int64.ofInt y) :: .long (Int64.ofInt x) :: st) M Q := jr_sem hi (fun f => fxk_lxor (by unfold jl_xor; rw [Int64.ofInt_toInt]; rfl)) k
theorem jr.lshl {x y : Int} (hi : m.2.2.2.2.2.2 pc = some .lshl) (k : jr A D m (pc + 1) ls (.long (Int64.ofInt (jl_shl x y)) :: st) M Q) : jr A D m pc ls (.int (Int32.ofInt y) :: .long (Int64.ofInt x) :: st) M Q := jr_sem hi (fun f => fxk_lshl (by unfold jl_shl; rw [Int64.ofInt_toInt]; rfl)) k
theorem jr.lshr {x y : Int} (hi : m.2.2.2.2.2.2 pc = some .lshr) (k : jr A D m (pc + 1) ls (.long (Int64.ofInt (jl_shr x y)) :: st) M Q) : jr A D m pc ls (.int (Int32.ofInt y) :: .long (Int64.ofInt x) :: st) M Q := jr_sem hi (fun f => fxk_lshr (by unfold jl_shr; rw [Int64.ofInt_toInt]; rfl)) k
theorem jr.lushr {x y : Int} (hi : m.2.2.2.2.2.2 pc = some .lushr) (k : jr A D m (pc + 1) ls (.long (Int64.ofInt (jl_ushr x y)) :: st) M Q) : jr A D m pc ls (.int (Int32.ofInt y) :: .long (Int64.ofInt x) :: st) M Q := jr_sem hi (fun f => fxk_lushr (by unfold jl_ushr; rw [Int64.ofInt_toInt]; rfl)) k
theorem jr.idiv {x y : Int} (hi : m.2.2.2.2.2.2 pc = some .idiv) (h0 : ¬ Int32.ofInt y = 0) (k : jr A D m (pc + 1) ls (.int (Int32.ofInt (j_div x y)) :: st) M Q) : jr A D m pc ls (.int (Int32.ofInt y) :: .int (Int32.ofInt x) :: st) M Q := jr_sem hi (fun f => fxk_idiv (by unfold j_div fx_idiv; rw [Int32.ofInt_toInt]; simp only [if_neg h0])) k
theorem jr.irem {x y : Int} (hi : m.2.2.2.2.2.2 pc = some .irem) (h0 : ¬ Int32.ofInt y = 0) (k : jr A D m (pc + 1) ls (.int (Int32.ofInt (j_rem x y)) :: st) M Q) : jr A D m pc ls (.int (Int32.ofInt y) :: .int (Int32.ofInt x) :: st) M Q := jr_sem hi (fun f => fxk_irem (by unfold j_rem fx_irem; rw [Int32.ofInt_toInt]; simp only [if_neg h0])) k
theorem jr.ldiv {x y : Int} (hi : m.2.2.2.2.2.2 pc = some .ldiv) (h0 : ¬ Int64.ofInt y = 0) (k : jr A D m (pc + 1) ls (.long (Int64.ofInt (jl_div x y)) :: st) M Q) : jr A D m pc ls (.long (Int64.ofInt y) :: .long (Int64.ofInt x) :: st) M Q := jr_sem hi (fun f => fxk_ldiv (by unfold jl_div fx_ldiv; rw [Int64.ofInt_toInt]; simp only [if_neg h0])) k
theorem jr.lrem {x y : Int} (hi : m.2.2.2.2.2.2 pc = some .lrem) (h0 : ¬ Int64.ofInt y = 0) (k : jr A D m (pc + 1) ls (.long (Int64.ofInt (jl_rem x y)) :: st) M Q) : jr A D m pc ls (.long (Int64.ofInt y) :: .long (Int64.ofInt x) :: st) M Q := jr_sem hi (fun f => fxk_lrem (by unfold jl_rem fx_lrem; rw [Int64.ofInt_toInt]; simp only [if_neg h0])) k
theorem jr.i2l {x : Int} (hi : m.2.2.2.2.2.2 pc = some .i2l) (hx : -2147483648 ≤ x ∧ x ≤ 2147483647) (k : jr A D m (pc + 1) ls (.long (Int64.ofInt x) :: st) M Q) : jr A D m pc ls (.int (Int32.ofInt x) :: st) M Q := jr_sem hi (fun f => fxk_i2l (by
  have e : Int64.ofInt x = (Int32.ofInt x).toInt64 := by rw [← Int64.ofInt_int32ToInt, Int32.toInt_ofInt_of_le (by omega) (by omega)]
  rw [e]; rfl)) k
theorem jr.i2lw {x : Int} (hi : m.2.2.2.2.2.2 pc = some .i2l) (k : jr A D m (pc + 1) ls (.long (Int64.ofInt (j_w x)) :: st) M Q) : jr A D m pc ls (.int (Int32.ofInt x) :: st) M Q := jr_sem hi (fun f => fxk_i2l (by unfold j_w; rw [Int64.ofInt_int32ToInt]; rfl)) k
theorem jr.l2i {x : Int} (hi : m.2.2.2.2.2.2 pc = some .l2i) (k : jr A D m (pc + 1) ls (.int (Int32.ofInt x) :: st) M Q) : jr A D m pc ls (.long (Int64.ofInt x) :: st) M Q := jr_sem hi (fun f => fxk_l2i (by rw [← Int64.toInt32_ofInt]; rfl)) k
theorem jr.lcmp {x y : Int} (hi : m.2.2.2.2.2.2 pc = some .lcmp) (k : jr A D m (pc + 1) ls (.int (Int32.ofInt (jl_cmp x y)) :: st) M Q) : jr A D m pc ls (.long (Int64.ofInt y) :: .long (Int64.ofInt x) :: st) M Q := jr_sem hi (fun f => fxk_lcmp (by unfold jl_cmp; rw [Int32.ofInt_toInt]; rfl)) k
theorem jl_cmp_lt {x y : Int} (hx : -9223372036854775808 ≤ x ∧ x ≤ 9223372036854775807) (hy : -9223372036854775808 ≤ y ∧ y ≤ 9223372036854775807) : jl_cmp x y = if y < x then 1 else if x = y then 0 else -1 := by
  unfold jl_cmp lg_cmp
  have e1 : (Int64.ofInt x).toInt = x := Int64.toInt_ofInt_of_le (by omega) (by omega)
  have e2 : (Int64.ofInt y).toInt = y := Int64.toInt_ofInt_of_le (by omega) (by omega)
  simp only [gt_iff_lt, Int64.lt_iff_toInt_lt, ← Int64.toInt_inj, e1, e2]
  split
  · rfl
  · split <;> rfl
theorem jr.i2b {x : Int} (hi : m.2.2.2.2.2.2 pc = some .i2b) (k : jr A D m (pc + 1) ls (.int (Int32.ofInt (j_b x)) :: st) M Q) : jr A D m pc ls (.int (Int32.ofInt x) :: st) M Q := jr_sem hi (fun f => fxk_i2b (by unfold j_b; rw [Int32.ofInt_toInt]; rfl)) k
theorem jr.i2s {x : Int} (hi : m.2.2.2.2.2.2 pc = some .i2s) (k : jr A D m (pc + 1) ls (.int (Int32.ofInt (j_s x)) :: st) M Q) : jr A D m pc ls (.int (Int32.ofInt x) :: st) M Q := jr_sem hi (fun f => fxk_i2s (by unfold j_s; rw [Int32.ofInt_toInt]; rfl)) k
theorem jr.i2c {x : Int} (hi : m.2.2.2.2.2.2 pc = some .i2c) (k : jr A D m (pc + 1) ls (.int (Int32.ofInt (j_c x)) :: st) M Q) : jr A D m pc ls (.int (Int32.ofInt x) :: st) M Q := jr_sem hi (fun f => fxk_i2c (by unfold j_c; rw [Int32.ofInt_toInt]; rfl)) k
theorem jr.goto {t : Nat} {off : Int} (hi : m.2.2.2.2.2.2 pc = some (.goto off)) (ht : ix_tg pc off = some t) (k : jr A D m t ls st M Q) : jr A D m pc ls st M Q := jr_sem hi (fun f => fxk_goto (by unfold fx_goto; rw [ht])) k
theorem jr.pop {v : Value} (hi : m.2.2.2.2.2.2 pc = some .pop) (hv : v.category = 1) (k : jr A D m (pc + 1) ls st M Q) : jr A D m pc ls (v :: st) M Q := jr_sem hi (fun f => fxk_pop (by unfold fx_pop; simp only [if_pos hv])) k
theorem jr.dup {v : Value} (hi : m.2.2.2.2.2.2 pc = some .dup) (hv : v.category = 1) (k : jr A D m (pc + 1) ls (v :: v :: st) M Q) : jr A D m pc ls (v :: st) M Q := jr_sem hi (fun f => fxk_dup (by unfold fx_dup; simp only [if_pos hv])) k
theorem jr.dup2 {v w : Value} (hi : m.2.2.2.2.2.2 pc = some .dup2) (hv : v.category = 1 ∧ w.category = 1) (k : jr A D m (pc + 1) ls (v :: w :: v :: w :: st) M Q) : jr A D m pc ls (v :: w :: st) M Q := jr_sem hi (fun f => fxk_dup2 (by unfold fx_dup2; simp only [if_pos hv])) k
theorem j_cb {x y : Int} (hx : -2147483648 ≤ x ∧ x ≤ 2147483647) (hy : -2147483648 ≤ y ∧ y ≤ 2147483647) : (Int32.ofInt x = Int32.ofInt y ↔ x = y) ∧ (Int32.ofInt x < Int32.ofInt y ↔ x < y) ∧ (Int32.ofInt x ≤ Int32.ofInt y ↔ x ≤ y) := by
  have e1 : (Int32.ofInt x).toInt = x := Int32.toInt_ofInt_of_le (by omega) (by omega)
  have e2 : (Int32.ofInt y).toInt = y := Int32.toInt_ofInt_of_le (by omega) (by omega)
  refine ⟨?_, ?_, ?_⟩
  · rw [← Int32.toInt_inj, e1, e2]
  · rw [Int32.lt_iff_toInt_lt, e1, e2]
  · rw [Int32.le_iff_toInt_le, e1, e2]
theorem j_cb_eq {x y : Int} (hx : -2147483648 ≤ x ∧ x ≤ 2147483647) (hy : -2147483648 ≤ y ∧ y ≤ 2147483647) : ix_cb .eq (Int32.ofInt x) (Int32.ofInt y) = decide (x = y) := by
  unfold ix_cb
  exact decide_eq_decide.mpr (j_cb hx hy).1
theorem jr.icmp_eq {t : Nat} {off x y : Int} (hi : m.2.2.2.2.2.2 pc = some (.if_icmp .eq off)) (ht : ix_tg pc off = some t) (hx : -2147483648 ≤ x ∧ x ≤ 2147483647) (hy : -2147483648 ≤ y ∧ y ≤ 2147483647) (k1 : x = y → jr A D m t ls st M Q) (k2 : ¬ (x = y) → jr A D m (pc + 3) ls st M Q) : jr A D m pc ls (.int (Int32.ofInt y) :: .int (Int32.ofInt x) :: st) M Q := by
  by_cases h : x = y
  · exact jr_sem hi (fun f => fxk_icmp (by unfold fx_icmp; simp only [ht, j_cb_eq hx hy, decide_eq_true h, cond_true])) (k1 h)
  · exact jr_sem hi (fun f => fxk_icmp (by unfold fx_icmp; simp only [ht, j_cb_eq hx hy, decide_eq_false h, cond_false])) (k2 h)
theorem jr.if_eq {t : Nat} {off x : Int} (hi : m.2.2.2.2.2.2 pc = some (.ifCond .eq off)) (ht : ix_tg pc off = some t) (hx : -2147483648 ≤ x ∧ x ≤ 2147483647) (k1 : x = 0 → jr A D m t ls st M Q) (k2 : ¬ (x = 0) → jr A D m (pc + 3) ls st M Q) : jr A D m pc ls (.int (Int32.ofInt x) :: st) M Q := by
  have hy : (-2147483648 : Int) ≤ 0 ∧ (0 : Int) ≤ 2147483647 := by omega
  have e : ix_cb .eq (Int32.ofInt x) 0 = decide (x = 0) := j_cb_eq hx hy
  by_cases h : x = 0
  · exact jr_sem hi (fun f => fxk_if (by unfold fx_if; simp only [ht, e, decide_eq_true h, cond_true])) (k1 h)
  · exact jr_sem hi (fun f => fxk_if (by unfold fx_if; simp only [ht, e, decide_eq_false h, cond_false])) (k2 h)
theorem j_cb_ne {x y : Int} (hx : -2147483648 ≤ x ∧ x ≤ 2147483647) (hy : -2147483648 ≤ y ∧ y ≤ 2147483647) : ix_cb .ne (Int32.ofInt x) (Int32.ofInt y) = decide (¬ x = y) := by
  unfold ix_cb
  exact decide_eq_decide.mpr (not_congr (j_cb hx hy).1)
theorem jr.icmp_ne {t : Nat} {off x y : Int} (hi : m.2.2.2.2.2.2 pc = some (.if_icmp .ne off)) (ht : ix_tg pc off = some t) (hx : -2147483648 ≤ x ∧ x ≤ 2147483647) (hy : -2147483648 ≤ y ∧ y ≤ 2147483647) (k1 : ¬ x = y → jr A D m t ls st M Q) (k2 : ¬ (¬ x = y) → jr A D m (pc + 3) ls st M Q) : jr A D m pc ls (.int (Int32.ofInt y) :: .int (Int32.ofInt x) :: st) M Q := by
  by_cases h : ¬ x = y
  · exact jr_sem hi (fun f => fxk_icmp (by unfold fx_icmp; simp only [ht, j_cb_ne hx hy, decide_eq_true h, cond_true])) (k1 h)
  · exact jr_sem hi (fun f => fxk_icmp (by unfold fx_icmp; simp only [ht, j_cb_ne hx hy, decide_eq_false h, cond_false])) (k2 h)
theorem jr.if_ne {t : Nat} {off x : Int} (hi : m.2.2.2.2.2.2 pc = some (.ifCond .ne off)) (ht : ix_tg pc off = some t) (hx : -2147483648 ≤ x ∧ x ≤ 2147483647) (k1 : ¬ x = 0 → jr A D m t ls st M Q) (k2 : ¬ (¬ x = 0) → jr A D m (pc + 3) ls st M Q) : jr A D m pc ls (.int (Int32.ofInt x) :: st) M Q := by
  have hy : (-2147483648 : Int) ≤ 0 ∧ (0 : Int) ≤ 2147483647 := by omega
  have e : ix_cb .ne (Int32.ofInt x) 0 = decide (¬ x = 0) := j_cb_ne hx hy
  by_cases h : ¬ x = 0
  · exact jr_sem hi (fun f => fxk_if (by unfold fx_if; simp only [ht, e, decide_eq_true h, cond_true])) (k1 h)
  · exact jr_sem hi (fun f => fxk_if (by unfold fx_if; simp only [ht, e, decide_eq_false h, cond_false])) (k2 h)
theorem j_cb_lt {x y : Int} (hx : -2147483648 ≤ x ∧ x ≤ 2147483647) (hy : -2147483648 ≤ y ∧ y ≤ 2147483647) : ix_cb .lt (Int32.ofInt x) (Int32.ofInt y) = decide (x < y) := by
  unfold ix_cb
  exact decide_eq_decide.mpr (j_cb hx hy).2.1
theorem jr.icmp_lt {t : Nat} {off x y : Int} (hi : m.2.2.2.2.2.2 pc = some (.if_icmp .lt off)) (ht : ix_tg pc off = some t) (hx : -2147483648 ≤ x ∧ x ≤ 2147483647) (hy : -2147483648 ≤ y ∧ y ≤ 2147483647) (k1 : x < y → jr A D m t ls st M Q) (k2 : ¬ (x < y) → jr A D m (pc + 3) ls st M Q) : jr A D m pc ls (.int (Int32.ofInt y) :: .int (Int32.ofInt x) :: st) M Q := by
  by_cases h : x < y
  · exact jr_sem hi (fun f => fxk_icmp (by unfold fx_icmp; simp only [ht, j_cb_lt hx hy, decide_eq_true h, cond_true])) (k1 h)
  · exact jr_sem hi (fun f => fxk_icmp (by unfold fx_icmp; simp only [ht, j_cb_lt hx hy, decide_eq_false h, cond_false])) (k2 h)
theorem jr.if_lt {t : Nat} {off x : Int} (hi : m.2.2.2.2.2.2 pc = some (.ifCond .lt off)) (ht : ix_tg pc off = some t) (hx : -2147483648 ≤ x ∧ x ≤ 2147483647) (k1 : x < 0 → jr A D m t ls st M Q) (k2 : ¬ (x < 0) → jr A D m (pc + 3) ls st M Q) : jr A D m pc ls (.int (Int32.ofInt x) :: st) M Q := by
  have hy : (-2147483648 : Int) ≤ 0 ∧ (0 : Int) ≤ 2147483647 := by omega
  have e : ix_cb .lt (Int32.ofInt x) 0 = decide (x < 0) := j_cb_lt hx hy
  by_cases h : x < 0
  · exact jr_sem hi (fun f => fxk_if (by unfold fx_if; simp only [ht, e, decide_eq_true h, cond_true])) (k1 h)
  · exact jr_sem hi (fun f => fxk_if (by unfold fx_if; simp only [ht, e, decide_eq_false h, cond_false])) (k2 h)
theorem j_cb_ge {x y : Int} (hx : -2147483648 ≤ x ∧ x ≤ 2147483647) (hy : -2147483648 ≤ y ∧ y ≤ 2147483647) : ix_cb .ge (Int32.ofInt x) (Int32.ofInt y) = decide (y ≤ x) := by
  unfold ix_cb
  exact decide_eq_decide.mpr (j_cb hy hx).2.2
theorem jr.icmp_ge {t : Nat} {off x y : Int} (hi : m.2.2.2.2.2.2 pc = some (.if_icmp .ge off)) (ht : ix_tg pc off = some t) (hx : -2147483648 ≤ x ∧ x ≤ 2147483647) (hy : -2147483648 ≤ y ∧ y ≤ 2147483647) (k1 : y ≤ x → jr A D m t ls st M Q) (k2 : ¬ (y ≤ x) → jr A D m (pc + 3) ls st M Q) : jr A D m pc ls (.int (Int32.ofInt y) :: .int (Int32.ofInt x) :: st) M Q := by
  by_cases h : y ≤ x
  · exact jr_sem hi (fun f => fxk_icmp (by unfold fx_icmp; simp only [ht, j_cb_ge hx hy, decide_eq_true h, cond_true])) (k1 h)
  · exact jr_sem hi (fun f => fxk_icmp (by unfold fx_icmp; simp only [ht, j_cb_ge hx hy, decide_eq_false h, cond_false])) (k2 h)
theorem jr.if_ge {t : Nat} {off x : Int} (hi : m.2.2.2.2.2.2 pc = some (.ifCond .ge off)) (ht : ix_tg pc off = some t) (hx : -2147483648 ≤ x ∧ x ≤ 2147483647) (k1 : 0 ≤ x → jr A D m t ls st M Q) (k2 : ¬ (0 ≤ x) → jr A D m (pc + 3) ls st M Q) : jr A D m pc ls (.int (Int32.ofInt x) :: st) M Q := by
  have hy : (-2147483648 : Int) ≤ 0 ∧ (0 : Int) ≤ 2147483647 := by omega
  have e : ix_cb .ge (Int32.ofInt x) 0 = decide (0 ≤ x) := j_cb_ge hx hy
  by_cases h : 0 ≤ x
  · exact jr_sem hi (fun f => fxk_if (by unfold fx_if; simp only [ht, e, decide_eq_true h, cond_true])) (k1 h)
  · exact jr_sem hi (fun f => fxk_if (by unfold fx_if; simp only [ht, e, decide_eq_false h, cond_false])) (k2 h)
end JI
end
