section
/-! ===== rules: an instruction, a row ===== -/
section JI
variable {A : Nat → Option (Nat × (Nat → Int32))} {D : Nat} {m : ix_M} {pc : Nat} {ls ls' : ix_L} {st : List Value} {M : jm} {Q : Option Value → jm → Prop}
/-- the payloads of what isn't plain arithmetic -/
noncomputable def j_and (x y : Int) : Int := (Int32.ofInt x &&& Int32.ofInt y).toInt
noncomputable def j_or (x y : Int) : Int := (Int32.ofInt x ||| Int32.ofInt y).toInt
noncomputable def j_shl (x y : Int) : Int := (Int32.ofInt x <<< (Int32.ofInt y &&& 31)).toInt
noncomputable def j_shr (x y : Int) : Int := (Int32.ofInt x >>> (Int32.ofInt y &&& 31)).toInt
noncomputable def j_ushr (x y : Int) : Int := ((Int32.ofInt x).toUInt32 >>> ((Int32.ofInt y).toUInt32 &&& Int32.toUInt32 31)).toInt32.toInt
noncomputable def jl_and (x y : Int) : Int := (Int64.ofInt x &&& Int64.ofInt y).toInt
noncomputable def jl_or (x y : Int) : Int := (Int64.ofInt x ||| Int64.ofInt y).toInt
noncomputable def jl_xor (x y : Int) : Int := (Int64.ofInt x ^^^ Int64.ofInt y).toInt
noncomputable def jl_shl (x y : Int) : Int := (Int64.ofInt x <<< ((Int32.ofInt y).toInt64 &&& 63)).toInt
noncomputable def jl_shr (x y : Int) : Int := (Int64.ofInt x >>> ((Int32.ofInt y).toInt64 &&& 63)).toInt
noncomputable def jl_ushr (x y : Int) : Int := ((Int64.ofInt x).toUInt64 >>> ((Int32.ofInt y).toInt64.toUInt64 &&& Int64.toUInt64 63)).toInt64.toInt
noncomputable def jl_div (x y : Int) : Int := (Int64.ofInt x / Int64.ofInt y).toInt
noncomputable def jl_rem (x y : Int) : Int := (Int64.ofInt x - Int64.ofInt x / Int64.ofInt y * Int64.ofInt y).toInt
noncomputable def j_div (x y : Int) : Int := (Int32.ofInt x / Int32.ofInt y).toInt
noncomputable def j_rem (x y : Int) : Int := (Int32.ofInt x - Int32.ofInt x / Int32.ofInt y * Int32.ofInt y).toInt
noncomputable def j_w (x : Int) : Int := (Int32.ofInt x).toInt
noncomputable def jl_w (x : Int) : Int := (Int64.ofInt x).toInt
noncomputable def j_b (x : Int) : Int := (Int32.ofInt x).toInt8.toInt32.toInt
noncomputable def j_s (x : Int) : Int := (Int32.ofInt x).toInt16.toInt32.toInt
noncomputable def j_c (x : Int) : Int := ((Int32.ofInt x).toUInt32 % 65536).toInt32.toInt
noncomputable def jl_cmp (x y : Int) : Int := (lg_cmp (Int64.ofInt x) (Int64.ofInt y)).toInt
theorem j_w_id {x : Int} (h : -2147483648 ≤ x ∧ x ≤ 2147483647) : j_w x = x := Int32.toInt_ofInt_of_le (by omega) (by omega)
theorem jl_w_id {x : Int} (h : -9223372036854775808 ≤ x ∧ x ≤ 9223372036854775807) : jl_w x = x := Int64.toInt_ofInt_of_le (by omega) (by omega)
theorem jr.iconst {n : Int} (hi : m.2.2.2.2.2.2 pc = some (.iconst n)) (k : jr A D m (pc + 1) ls (.int (Int32.ofInt n) :: st) M Q) : jr A D m pc ls st M Q := jr_sem hi (fun f => fxk_iconst rfl) k
theorem jr.bipush {n : Int} (hi : m.2.2.2.2.2.2 pc = some (.bipush n)) (hv : (Int8.ofInt n).toInt32 = Int32.ofInt n) (k : jr A D m (pc + 2) ls (.int (Int32.ofInt n) :: st) M Q) : jr A D m pc ls st M Q := jr_sem hi (fun f => fxk_bipush (by rw [← hv]; rfl)) k
theorem jr.sipush {n : Int} (hi : m.2.2.2.2.2.2 pc = some (.sipush n)) (hv : (Int16.ofInt n).toInt32 = Int32.ofInt n) (k : jr A D m (pc + 3) ls (.int (Int32.ofInt n) :: st) M Q) : jr A D m pc ls st M Q := jr_sem hi (fun f => fxk_sipush (by rw [← hv]; rfl)) k
theorem jr.lconst {n : Fin 2} {x : Int} (hi : m.2.2.2.2.2.2 pc = some (.lconst n)) (hv : Int64.ofNat (n : Nat) = Int64.ofInt x) (k : jr A D m (pc + 1) ls (.long (Int64.ofInt x) :: st) M Q) : jr A D m pc ls st M Q := jr_sem hi (fun f => fxk_lconst (by rw [← hv]; rfl)) k
theorem jr.ldc {idx : Nat} {c : Int32} {x : Int} (hi : m.2.2.2.2.2.2 pc = some (.ldc idx)) (hk : ix_tK (xT A) m.1 idx = some (.int c)) (hv : c = Int32.ofInt x) (k : jr A D m (pc + 2) ls (.int (Int32.ofInt x) :: st) M Q) : jr A D m pc ls st M Q := jr_sem hi (fun f => fxk_ldc (by unfold fx_ldc; rw [hk, hv])) k
theorem jr.ldcw {idx : Nat} {c : Int32} {x : Int} (hi : m.2.2.2.2.2.2 pc = some (.ldc_w idx)) (hk : ix_tK (xT A) m.1 idx = some (.int c)) (hv : c = Int32.ofInt x) (k : jr A D m (pc + 3) ls (.int (Int32.ofInt x) :: st) M Q) : jr A D m pc ls st M Q := jr_sem hi (fun f => fxk_ldc_w (by unfold fx_ldc_w; rw [hk, hv])) k
end JI
end
