section
/-! ===== rules: an instruction, a row ===== -/
section JI
variable {A : Nat → Option (Nat × (Nat → Int32))} {D : Nat} {m : ix_M} {pc : Nat} {ls ls' : ix_L} {st : List Value} {M : jm} {Q : Option Value → jm → Prop}
/-- the payloads of what isn't plain arithmetic -/
noncomputable def j_and (x y : Int) : Int := (Int32.ofInt x &&& Int32.ofInt y).toInt
noncomputable def j_or (x y : Int) : Int := (Int32.ofInt x ||| Int32.ofInt y).toInt
noncomputable def j_shl (x y : Int) : Int := (Int32.ofInt x <<< (Int32.ofInt y &&& 31)).toInt
noncomputable def j_shr (x y : Int) : Int := (Int32.ofInt x >>> (Int32.ofInt y &&& 31)).toInt
noncomputable def j_ushr (x y : Int) : Int := ((Int32.ofInt x).toUInt32 >>> ((Int32.ofInt y).toUInt32 &&& Int32.toUInt32 31)).toInt32.toInt
noncomputable def jl_and (x y : Int) : Int := (Int64.ofInt x &&& Int64.ofInt y).toInt
noncomputable def jl_or (x y : Int) : Int := (Int64.ofInt x ||| Int64.ofInt y).toInt
noncomputable def jl_xor (x y : Int) : Int := (Int64.ofInt x ^^^ Int64.ofInt y).toInt
noncomputable def jl_shl (x y : Int) : Int := (Int64.ofInt x <<< ((Int32.ofInt y).toInt64 &&& 63)).toInt
noncomputable def jl_shr (x y : Int) : Int := (Int64.ofInt x >>> ((Int32.ofInt y).toInt64 &&& 63)).toInt
noncomputable def jl_ushr (x y : Int) : Int := ((Int64.ofInt x).toUInt64 >>> ((Int32.ofInt y).toInt64.toUInt64 &&& Int64.toUInt64 63)).toInt64.toInt
noncomputable def jl_div (x y : Int) : Int := (Int64.ofInt x / Int64.ofInt y).toInt
noncomputable def jl_rem (x y : Int) : Int := (Int64.ofInt x - Int64.ofInt x / Int64.ofInt y * Int64.ofInt y).toInt
noncomputable def j_div (x y : Int) : Int := (Int32.ofInt x / Int32.ofInt y).toInt
noncomputable def j_rem (x y : Int) : Int := (Int32.ofInt x - Int32.ofInt x / Int32.ofInt y * Int32.ofInt y).toInt
noncomputable def j_w (x : Int) : Int := (Int32.ofInt x).toInt
noncomputable def jl_w (x : Int) : Int := (Int64.ofInt x).toInt
noncomputable def j_b (x : Int) : Int := (Int32.ofInt x).toInt8.toInt32.toInt
noncomputable def j_s (x : Int) : Int := (Int32.ofInt x).toInt16.toInt32.toInt
noncomputable def j_c (x : Int) : Int := ((Int32.ofInt x).toUInt32 % 65536).toInt32.toInt
noncomputable def jl_cmp (x y : Int) : Int := (lg_cmp (Int64.ofInt x) (Int64.ofInt y)).toInt
theorem j_w_id {x : Int} (h : -2147483648 ≤ x ∧ x ≤ 2147483647) : j_w x = x := Int32.toInt_ofInt_of_le (by omega) (by omega)
theorem jl_w_id {x : Int} (h : -9223372036854775808 ≤ x ∧ x ≤ 9223372036854775807) : jl_w x = x := Int64.toInt_ofInt_of_le (by omega) (by omega)
theorem jr.iconst {n : Int} (hi : m.2.2.2.2.2.2 pc = some (.iconst n)) (k : jr A D m (pc + 1) ls (.int (Int32.ofInt n) :: st) M Q) : jr A D m pc ls st M Q := jr_sem hi (fun f => fxk_iconst rfl) k
theorem jr.bipush {n : Int} (hi : m.2.2.2.2.2.2 pc = some (.bipush n)) (hv : (Int8.ofInt n).toInt32 = Int32.ofInt n) (k : jr A D m (pc + 2) ls (.int (Int32.ofInt n) :: st) M Q) : jr A D m pc ls st M Q := jr_sem hi (fun f => fxk_bipush (by rw [← hv]; rfl)) k
theorem jr.sipush {n : Int} (hi : m.2.2.2.2.2.2 pc = some (.sipush n)) (hv : (Int16.ofInt n).toInt32 = Int32.ofInt n) (k : jr A D m (pc + 3) ls (.int (Int32.ofInt n) :: st) M Q) : jr A D m pc ls st M Q := jr_sem hi (fun f => fxk_sipush (by rw [← hv]; rfl)) k
theorem jr.lconst {n : Fin 2} {x : Int} (hi : m.2.2.2.2.2.2 pc = some (.lconst n)) (hv : Int64.ofNat (n : Nat) = Int64.ofInt x) (k : jr A D m (pc + 1) ls (.long (Int64.ofInt x) :: st) M Q) : jr A D m pc ls st M Q := jr_sem hi (fun f => fxk_lconst (by rw [← hv]; rfl)) k
theorem jr.ldc {idx : Nat} {c : Int32} {x : Int} (hi : m.2.2.2.2.2.2 pc = some (.ldc idx)) (hk : ix_tK (xT A) m.1 idx = some (.int c)) (hv : c = Int32.ofInt x) (k : jr A D m (pc + 2) ls (.int (Int32.ofInt x) :: st) M Q) : jr A D m pc ls st M Q := jr_sem hi (fun f => fxk_ldc (by unfold fx_ldc; rw [hk, hv])) k
theorem jr.ldcw {idx : Nat} {c : Int32} {x : Int} (hi : m.2.2.2.2.2.2 pc = some (.ldc_w idx)) (hk : ix_tK (xT A) m.1 idx = some (.int c)) (hv : c = Int32.ofInt x) (k : jr A D m (pc + 3) ls (.int (Int32.ofInt x) :: st) M Q) : jr A D m pc ls st M Q := jr_sem hi (fun f => fxk_ldc_w (by unfold fx_ldc_w; rw [hk, hv])) k
theorem jr.ldc2 {idx : Nat} {c : Int64} {x : Int} (hi : m.2.2.2.2.2.2 pc = some (.ldc2_w idx)) (hk : ix_tK (xT A) m.1 idx = some (.long c)) (hv : c = Int64.ofInt x) (k : jr A D m (pc + 3) ls (.long (Int64.ofInt x) :: st) M Q) : jr A D m pc ls st M Q := jr_sem hi (fun f => fxk_ldc2_w (by unfold fx_ldc2_w; rw [hk, hv])) k
theorem jr.iload {k : Nat} {x : Int32} (hi : m.2.2.2.2.2.2 pc = some (.iload k)) (hl : ix_ld ls k = some (.int x)) (kk : jr A D m (pc + 2) ls (.int x :: st) M Q) : jr A D m pc ls st M Q := jr_sem hi (fun f => fxk_iload (by unfold fx_iload; rw [hl])) kk
theorem jr.iload_n {k : Fin 4} {x : Int32} (hi : m.2.2.2.2.2.2 pc = some (.iload_n k)) (hl : ix_ld ls k.val = some (.int x)) (kk : jr A D m (pc + 1) ls (.int x :: st) M Q) : jr A D m pc ls st M Q := jr_sem hi (fun f => fxk_iload_n (by unfold fx_iload; rw [hl])) kk
theorem jr.istore {k : Nat} {x : Int32} (hi : m.2.2.2.2.2.2 pc = some (.istore k)) (hk : k < m.2.2.2.1) (hl : ix_st1 ls k (.int x) = ls') (kk : jr A D m (pc + 2) ls' st M Q) : jr A D m pc ls (.int x :: st) M Q := jr_sem hi (fun f => fxk_istore (by unfold fx_istore; simp only [if_pos hk, hl])) kk
theorem jr.istore_n {k : Fin 4} {x : Int32} (hi : m.2.2.2.2.2.2 pc = some (.istore_n k)) (hk : k.val < m.2.2.2.1) (hl : ix_st1 ls k.val (.int x) = ls') (kk : jr A D m (pc + 1) ls' st M Q) : jr A D m pc ls (.int x :: st) M Q := jr_sem hi (fun f => fxk_istore_n (by unfold fx_istore; simp only [if_pos hk, hl])) kk
theorem jr.lload {k : Nat} {x : Int64} (hi : m.2.2.2.2.2.2 pc = some (.lload k)) (hl : ix_ld ls k = some (.long x)) (kk : jr A D m (pc + 2) ls (.long x :: st) M Q) : jr A D m pc ls st M Q := jr_sem hi (fun f => fxk_lload (by unfold fx_lload; rw [hl])) kk
theorem jr.lload_n {k : Fin 4} {x : Int64} (hi : m.2.2.2.2.2.2 pc = some (.lload_n k)) (hl : ix_ld ls k.val = some (.long x)) (kk : jr A D m (pc + 1) ls (.long x :: st) M Q) : jr A D m pc ls st M Q := jr_sem hi (fun f => fxk_lload_n (by unfold fx_lload; rw [hl])) kk
theorem jr.lstore {k : Nat} {x : Int64} (hi : m.2.2.2.2.2.2 pc = some (.lstore k)) (hk : k + 1 < m.2.2.2.1) (hl : ix_st2 ls k (.long x) = ls') (kk : jr A D m (pc + 2) ls' st M Q) : jr A D m pc ls (.long x :: st) M Q := jr_sem hi (fun f => fxk_lstore (by unfold fx_lstore; simp only [if_pos hk, hl])) kk
theorem jr.lstore_n {k : Fin 4} {x : Int64} (hi : m.2.2.2.2.2.2 pc = some (.lstore_n k)) (hk : k.val + 1 < m.2.2.2.1) (hl : ix_st2 ls k.val (.long x) = ls') (kk : jr A D m (pc + 1) ls' st M Q) : jr A D m pc ls (.long x :: st) M Q := jr_sem hi (fun f => fxk_lstore_n (by unfold fx_lstore; simp only [if_pos hk, hl])) kk
theorem jr.aload {k : Nat} {x : Nat} (hi : m.2.2.2.2.2.2 pc = some (.aload k)) (hl : ix_ld ls k = some (.ref x)) (kk : jr A D m (pc + 2) ls (.ref x :: st) M Q) : jr A D m pc ls st M Q := jr_sem hi (fun f => fxk_aload (by unfold fx_aload; rw [hl])) kk
theorem jr.aload_n {k : Fin 4} {x : Nat} (hi : m.2.2.2.2.2.2 pc = some (.aload_n k)) (hl : ix_ld ls k.val = some (.ref x)) (kk : jr A D m (pc + 1) ls (.ref x :: st) M Q) : jr A D m pc ls st M Q := jr_sem hi (fun f => fxk_aload_n (by unfold fx_aload; rw [hl])) kk
theorem jr.astore {k : Nat} {x : Nat} (hi : m.2.2.2.2.2.2 pc = some (.astore k)) (hk : k < m.2.2.2.1) (hl : ix_st1 ls k (.ref x) = ls') (kk : jr A D m (pc + 2) ls' st M Q) : jr A D m pc ls (.ref x :: st) M Q := jr_sem hi (fun f => fxk_astore (by unfold fx_astore; simp only [if_pos hk, hl])) kk
theorem jr.astore_n {k : Fin 4} {x : Nat} (hi : m.2.2.2.2.2.2 pc = some (.astore_n k)) (hk : k.val < m.2.2.2.1) (hl : ix_st1 ls k.val (.ref x) = ls') (kk : jr A D m (pc + 1) ls' st M Q) : jr A D m pc ls (.ref x :: st) M Q := jr_sem hi (fun f => fxk_astore_n (by unfold fx_astore; simp only [if_pos hk, hl])) kk
theorem jr.iinc {k : Nat} {n x : Int} (hi : m.2.2.2.2.2.2 pc = some (.iinc k n)) (h0 : ix_ld ls k = some (.int (Int32.ofInt x))) (hk : k < m.2.2.2.1) (hl : ix_st1 ls k (.int (Int32.ofInt (x + n))) = ls') (kk : jr A D m (pc + 3) ls' st M Q) : jr A D m pc ls st M Q := jr_sem hi (fun f => fxk_iinc (by unfold fx_iinc; rw [h0]; simp only [if_pos hk, ← Int32.ofInt_add, hl])) kk
theorem jr.iadd {x y : Int} (hi : m.2.2.2.2.2.2 pc = some .iadd) (k : jr A D m (pc + 1) ls (.int (Int32.ofInt (x + y)) :: st) M Q) : jr A D m pc ls (.int (Int32.ofInt y) :: .int (Int32.ofInt x) :: st) M Q := jr_sem hi (fun f => fxk_iadd (by rw [Int32.ofInt_add]; rfl)) k
theorem jr.isub {x y : Int} (hi : m.2.2.2.2.2.2 pc = some .isub) (k : jr A D m (pc + 1) ls (.int (Int32.ofInt (x - y)) :: st) M Q) : jr A D m pc ls (.int (Int32.ofInt y) :: .int (Int32.ofInt x) :: st) M Q := jr_sem hi (fun f => fxk_isub (by rw [Int32.ofInt_sub]; rfl)) k
theorem jr.imul {x y : Int} (hi : m.2.2.2.2.2.2 pc = some .imul) (k : jr A D m (pc + 1) ls (.int (Int32.ofInt (x * y)) :: st) M Q) : jr A D m pc ls (.int (Int32.ofInt y) :: .int (Int32.ofInt x) :: st) M Q := jr_sem hi (fun f => fxk_imul (by rw [Int32.ofInt_mul]; rfl)) k
theorem jr.ladd {x y : Int} (hi : m.2.2.2.2.2.2 pc = some .ladd) (k : jr A D m (pc + 1) ls (.long (Int64.ofInt (x + y)) :: st) M Q) : jr A D m pc ls (.long (Int64.ofInt y) :: .long (Int64.ofInt x) :: st) M Q := jr_sem hi (fun f => fxk_ladd (by rw [Int64.ofInt_add]; rfl)) k
theorem jr.lsub {x y : Int} (hi : m.2.2.2.2.2.2 pc = some .lsub) (k : jr A D m (pc + 1) ls (.long (Int64.ofInt (x - y)) :: st) M Q) : jr A D m pc ls (.long (Int64.ofInt y) :: .long (Int64.ofInt x) :: st) M Q := jr_sem hi (fun f => fxk_lsub (by rw [Int64.ofInt_sub]; rfl)) k
theorem jr.lmul {x y : Int} (hi : m.2.2.2.2.2.2 pc = some .lmul) (k : jr A D m (pc + 1) ls (.long (Int64.ofInt (x * y)) :: st) M Q) : jr A D m pc ls (.long (Int64.ofInt y) :: .long (Int64.ofInt x) :: st) M Q := jr_sem hi (fun f => fxk_lmul (by rw [Int64.ofInt_mul]; rfl)) k
theorem jr.ineg {x : Int} (hi : m.2.2.2.2.2.2 pc = some .ineg) (k : jr A D m (pc + 1) ls (.int (Int32.ofInt (-x)) :: st) M Q) : jr A D m pc ls (.int (Int32.ofInt x) :: st) M Q := jr_sem hi (fun f => fxk_ineg (by rw [Int32.ofInt_neg]; rfl)) k
theorem jr.lneg {x : Int} (hi : m.2.2.2.2.2.2 pc = some .lneg) (k : jr A D m (pc + 1) ls (.long (Int64.ofInt (-x)) :: st) M Q) : jr A D m pc ls (.long (Int64.ofInt x) :: st) M Q := jr_sem hi (fun f => fxk_lneg (by rw [Int64.ofInt_neg]; rfl)) k
theorem jr.iand {x y : Int} (hi : m.2.2.2.2.2.2 pc = some .iand) (k : jr A D m (pc + 1) ls (.int (Int32.ofInt (j_and x y)) :: st) M Q) : jr A D m pc ls (.int (Int32.ofInt y) :: .int (Int32.ofInt x) :: st) M Q := jr_sem hi (fun f => fxk_iand (by unfold j_and; rw [Int32.ofInt_toInt]; rfl)) k
theorem jr.ior {x y : Int} (hi : m.2.2.2.2.2.2 pc = some .ior) (k : jr A D m (pc + 1) ls (.int (Int32.ofInt (j_or x y)) :: st) M Q) : jr A D m pc ls (.int (Int32.ofInt y) :: .int (Int32.ofInt x) :: st) M Q := jr_sem hi (fun f => fxk_ior (by unfold j_or; rw [Int32.ofInt_toInt]; rfl)) k
theorem jr.ishl {x y : Int} (hi : m.2.2.2.2.2.2 pc = some .ishl) (k : jr A D m (pc + 1) ls (.int (Int32.ofInt (j_shl x y)) :: st) M Q) : jr A D m pc ls (.int (Int32.ofInt y) :: .int (Int32.ofInt x) :: st) M Q := jr_sem hi (fun f => fxk_ishl (by unfold j_shl; rw [Int32.ofInt_toInt]; rfl)) k
theorem jr.ishr {x y : Int} (hi : m.2.2.2.2.2.2 pc = some .ishr) (k : jr A D m (pc + 1) ls (.int (Int32.ofInt (j_shr x y)) :: st) M Q) : jr A D m pc ls (.int (Int32.ofInt y) :: .int (Int32.ofInt x) :: st) M Q := jr_sem hi (fun f => fxk_ishr (by unfold j_shr; rw [Int32.ofInt_toInt]; rfl)) k
theorem jr.iushr {x y : Int} (hi : m.2.2.2.2.2.2 pc = some .iushr) (k : jr A D m (pc + 1) ls (.int (Int32.ofInt (j_ushr x y)) :: st) M Q) : jr A D m pc ls (.int (Int32.ofInt y) :: .int (Int32.ofInt x) :: st) M Q := jr_sem hi (fun f => fxk_iushr (by unfold j_ushr; rw [Int32.ofInt_toInt]; rfl)) k
theorem jr.land {x y : Int} (hi : m.2.2.2.2.2.2 pc = some .land) (k : jr A D m (pc + 1) ls (.long (Int64.ofInt (jl_and x y)) :: st) M Q) : jr A D m pc ls (.long (Int64.ofInt y) :: .long (Int64.ofInt x) :: st) M Q := jr_sem hi (fun f => fxk_land (by unfold jl_and; rw [Int64.ofInt_toInt]; rfl)) k
end JI
end
