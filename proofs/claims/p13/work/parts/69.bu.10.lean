section
theorem c_Headers_dataBehind_x {A : Nat → Option (Nat × (Nat → Int32))} {Q : Option Value → jm → Prop} {f : Int → Int} {N : Int} {M : jm} (hC_M : CI M) {t : Nat} (k_t : kd t = 18) {x : Int} (h_x : (-2147483648) ≤ x ∧ x ≤ 2147483647) {C : Int} (g_C : M t 3 = C) {S : Int} (g_S : M t 7 = S) (p0 : HS M t f N) (q : ∀ (r : Int), (-2449) ≤ r ∧ r ≤ 800 → (r = N - enf f N C x) → Q (some (.int (Int32.ofInt r))) M) : jc A 3 119 [.ref (t), .int (Int32.ofInt (x))] M Q := by
  refine jc_of (m := xm_119) rfl (Nat.le_of_ble_eq_true rfl) rfl ?_
  have b_C : 0 ≤ C ∧ C ≤ 12 := by rw [← g_C]; exact (CI.r hC_M k_t (by decide) 3)
  have k_S : kd S.toNat = 33 := (congrArg (fun z : Int => kd z.toNat) g_S).symm.trans (CI.x hC_M k_t 7 rfl (by decide))
  refine jr.aload_n rfl rfl ?_
  refine jr.getf (i := 7) (x := S) (v := .ref (S.toNat)) rfl rfl (Nat.lt_trans (kx_18 k_t).1 (by decide)) (kx_18 k_t).2 (by decide) rfl rfl g_S (jval_mut rfl (kn_18_7 k_t)) ?_
  obtain ⟨v2, e2⟩ : ∃ z_, M ((S.toNat)) 1 = z_ := ⟨_, rfl⟩
  have b2 : (-1) ≤ v2 ∧ v2 ≤ 400 := by rw [← e2]; exact (CI.r hC_M k_S (by decide) 1)
  refine jr.getf (i := 1) (x := v2) (v := .int (Int32.ofInt (v2))) rfl rfl (Nat.lt_trans (kx_33 k_S).1 (by decide)) (kx_33 k_S).2 (by decide) rfl rfl e2 rfl ?_
  refine jr.aload_n rfl rfl ?_
  refine jr.iload_n rfl rfl ?_
  refine jr_v rfl rfl (Or.inl rfl) rfl rfl (Nat.lt_trans (kx_18 k_t).1 (by decide)) (kx_18 k_t).2 ⟨rfl, Nat.le_of_ble_eq_true rfl, Nat.le_of_ble_eq_true rfl⟩ rfl (jc.deep (c_Headers_endOf_x hC_M k_t (by omega) g_C p0 (fun r3 z3 w3_0 => ?_)) (by decide))
  refine jr.isub rfl ?_
  exact jr.ireturn rfl rfl rfl (q _ (by omega) (by have hn := p0.2.1; rw [g_S] at hn; omega))
end
section
/-! ===== sums ===== -/
noncomputable def sb (f : Int → Int) (a : Int) : Nat → Int
  | 0 => 0
  | n + 1 => sb f a n + (if n % 2 = 0 then f (a + n) * 256 else f (a + n))
noncomputable def fz (f : Int → Int) (b : Int) : Int → Int := fun k => if k = b ∨ k = b + 1 then 0 else f k
theorem sb_s {f : Int → Int} {a i : Int} (h : a ≤ i) : sb f a (i + 1 - a).toNat = sb f a (i - a).toNat + (if (i - a) % 2 = 0 then f i * 256 else f i) := by
  obtain ⟨n, hn⟩ : ∃ n : Nat, i = a + n := ⟨(i - a).toNat, by omega⟩
  subst hn
  rw [show (a + (n : Int) + 1 - a).toNat = n + 1 by omega, show (a + (n : Int) - a).toNat = n by omega, show a + (n : Int) - a = (n : Int) by omega]
  unfold sb
  by_cases q : n % 2 = 0
  · rw [if_pos q, if_pos (by omega)]
    cases n <;> rfl
  · rw [if_neg q, if_neg (by omega)]
    cases n <;> rfl
theorem sb_0 (f : Int → Int) (a : Int) : sb f a (a - a).toNat = 0 := by
  rw [show (a - a).toNat = 0 by omega]
  rfl
theorem sb_r {f : Int → Int} {a : Int} : ∀ n : Nat, (∀ i : Int, a ≤ i → i < a + n → 0 ≤ f i ∧ f i ≤ 255) → 0 ≤ sb f a n ∧ sb f a n ≤ 65280 * (n : Int) := by
  intro n
  induction n with
  | zero => intro _; exact ⟨Int.le_refl _, Int.le_refl _⟩
  | succ n ih =>
    intro h
    have q := ih (fun i h0 h1 => h i h0 (by omega))
    have w := h (a + n) (by omega) (by omega)
    unfold sb
    split <;> omega
theorem sb_e {f g : Int → Int} {a : Int} : ∀ n : Nat, (∀ i : Int, a ≤ i → i < a + n → f i = g i) → sb f a n = sb g a n := by
  intro n
  induction n with
  | zero => intro _; rfl
  | succ n ih =>
    intro h
    unfold sb
    rw [ih (fun i h0 h1 => h i h0 (by omega)), h (a + n) (by omega) (by omega)]
theorem sb_z {f : Int → Int} {a b : Int} (h : a ≤ b) (he : (b - a) % 2 = 0) : ∀ n : Nat, sb (fz f b) a n = sb f a n - (if b < a + n then f b * 256 else 0) - (if b + 1 < a + n then f (b + 1) else 0) := by
  intro n
  induction n with
  | zero =>
    rw [if_neg (by omega), if_neg (by omega)]
    rfl
  | succ n ih =>
    show sb (fz f b) a n + (if n % 2 = 0 then fz f b (a + n) * 256 else fz f b (a + n)) = sb f a n + (if n % 2 = 0 then f (a + n) * 256 else f (a + n)) - _ - _
    rw [ih]
    unfold fz
    by_cases q : a + (n : Int) = b
    · rw [if_pos (Or.inl q), if_pos (show n % 2 = 0 by omega), if_pos (show n % 2 = 0 by omega), if_neg (show ¬ b < a + (n : Int) by omega), if_neg (show ¬ b + 1 < a + (n : Int) by omega), if_pos (show b < a + ((n + 1 : Nat) : Int) by omega), if_neg (show ¬ b + 1 < a + ((n + 1 : Nat) : Int) by omega), q]
      omega
    · by_cases q2 : a + (n : Int) = b + 1
      · rw [if_pos (Or.inr q2), if_neg (show ¬ n % 2 = 0 by omega), if_neg (show ¬ n % 2 = 0 by omega), if_pos (show b < a + (n : Int) by omega), if_neg (show ¬ b + 1 < a + (n : Int) by omega), if_pos (show b < a + ((n + 1 : Nat) : Int) by omega), if_pos (show b + 1 < a + ((n + 1 : Nat) : Int) by omega), q2]
        omega
      · rw [if_neg (show ¬ (a + (n : Int) = b ∨ a + (n : Int) = b + 1) by omega)]
        by_cases q3 : b < a + (n : Int)
        · rw [if_pos q3, if_pos (show b + 1 < a + (n : Int) by omega), if_pos (show b < a + ((n + 1 : Nat) : Int) by omega), if_pos (show b + 1 < a + ((n + 1 : Nat) : Int) by omega)]
          omega
        · rw [if_neg q3, if_neg (show ¬ b + 1 < a + (n : Int) by omega), if_neg (show ¬ b < a + ((n + 1 : Nat) : Int) by omega), if_neg (show ¬ b + 1 < a + ((n + 1 : Nat) : Int) by omega)]
          omega
theorem sb_zt {f : Int → Int} {a b c : Int} (h : a ≤ b) (he : (b - a) % 2 = 0) (h1 : b + 1 < c) : sb f a (c - a).toNat - tw f b = sb (fz f b) a (c - a).toNat := by
  rw [sb_z h he, if_pos (by omega), if_pos (by omega)]
  unfold tw
  omega
noncomputable def fo (v : Int) : Int := v % 65536 + v / 65536
noncomputable def fin (v : Int) : Int := if v ≤ 65535 then v else if fo v ≤ 65535 then fo v else fo (fo v)
/-- what a sum turns into -/
noncomputable def tn (v : Int) : Int := 65535 - fin v
theorem fin_s {v : Int} (h : 65535 < v) (h1 : v < 4294967296) : fin (fo v) = fin v ∧ 0 ≤ fo v ∧ fo v ≤ 131070 ∧ (131070 < v ∨ fo v ≤ 65535) := by
  unfold fin fo
  (repeat' split) <;> omega
theorem fin_e {v : Int} (h : v ≤ 65535) : fin v = v := by
  unfold fin
  rw [if_pos h]
theorem fin_r {v : Int} (h : 0 ≤ v) (h1 : v < 4294967296) : 0 ≤ fin v ∧ fin v ≤ 65535 := by
  unfold fin fo
  (repeat' split) <;> omega
theorem jl_ushr_16 {x : Int} (h : 0 ≤ x ∧ x ≤ 4294967295) : jl_ushr x 16 = x / 65536 := by
  have q := jl_ushr_x (x := x) (s := 16) (by omega) (by omega)
  rw [q]
  rfl
theorem jl_shl_8x {n : Int} (h : 0 ≤ n ∧ n ≤ 65535) : jl_shl n 8 = n * 256 := by
  rw [jl_shl_8, jl_w_id (by omega)]
theorem jl_xor_n (v : Int) (h : 0 ≤ v ∧ v ≤ 65535) : jl_xor v (-1) = -v - 1 := by
  unfold jl_xor
  have e : (Int64.ofInt v ^^^ Int64.ofInt (-1)) = ~~~ (Int64.ofInt v) := by
    apply Int64.toBitVec_inj.mp
    rw [Int64.toBitVec_xor, Int64.toBitVec_not]
    rw [show (Int64.ofInt (-1)).toBitVec = BitVec.allOnes 64 by decide]
    exact BitVec.xor_allOnes
  rw [e]
  have e2 : (~~~ (Int64.ofInt v)).toBitVec.toNat = 18446744073709551615 - v.toNat := by
    rw [Int64.toBitVec_not, BitVec.toNat_not, jbl_tn]
    omega
  rw [jbl_ti, e2]
  split <;> omega
end
