section
theorem r_packet_x {A : Nat → Option (Nat × (Nat → Int32))} {Q : Option Value → jm → Prop} {M : jm} (hI_M : RI M) (hH_M : RH M) (hS_M : RF M) {x : Int} (h_x : (-2147483648) ≤ x ∧ x ≤ 2147483647) (q : ∀ (r : Int) (M' : jm), RI M' → RH M' → RF M' → (-3) ≤ r ∧ r ≤ 400 → (((x < 0 ∨ 23 < x ∨ 400 < M 598 1) ∧ r = -3 ∧ M' 598 1 = M 598 1 ∧ M' 600 = M 600 ∧ M' 601 = M 601) ∨ ((0 ≤ x ∧ x ≤ 23) ∧ M 598 1 ≤ 400 ∧ r = M 598 1 ∧ M' 598 1 = 0 ∧ M' 601 = pk6 (M 601) (M 599) x (M 598 1) ∧ (∀ j : Int, j ≠ x → M' 600 j = M 600 j) ∧ M' 600 x = M 598 1)) → (∀ (a : Nat) (i : Int), a ≠ 598 → a ≠ 600 → a ≠ 601 → a ≠ 602 → M' a i = M a i) → (∀ (i : Int), i ≠ 1 → M' 598 i = M 598 i) → Q (some (.int (Int32.ofInt r))) M') : jc A 3 248 [.ref (598), .int (Int32.ofInt (x))] M Q := by
  refine jc_of (m := xm_248) rfl (Nat.le_of_ble_eq_true rfl) rfl ?_
  refine jr.iload_n rfl rfl ?_
  refine jr_s rfl rfl (Or.inl rfl) ⟨Nat.le_of_ble_eq_true rfl, Nat.le_of_ble_eq_true rfl⟩ rfl rfl (jc.deep (c_isPN (by omega) (fun l1 u1 => ?_) (fun n1 => ?_)) (by decide))
  · refine jr.if_eq rfl rfl (by omega) (fun h => absurd h (by decide)) (fun _ => ?_)
    refine jr.aload_n rfl rfl ?_
    obtain ⟨v1, e1⟩ : ∃ z, M 598 1 = z := ⟨_, rfl⟩
    have b1 : 0 ≤ v1 ∧ v1 ≤ 1600 := by rw [← e1]; exact hI_M 598 1 (by decide)
    refine jr.getf (i := 1) (x := v1) (v := .int (Int32.ofInt (v1))) rfl rfl (by decide) rfl (by decide) rfl rfl e1 rfl ?_
    refine jr.sipush rfl (by decide) ?_
    refine jr.icmp_le rfl rfl (by omega) (by omega) (fun h14 => ?_) (fun h14 => ?_)
    · refine jr.iconst rfl ?_
      refine jr.istore_n (ls' := [_, _, _]) rfl (by decide) rfl ?_
      refine jr.pick (ls := [_, _, _]) [0, 2, 1] rfl rfl ?_
      exact r_packet_L22_x q 400 M 0 x hI_M hH_M hS_M  (fun a i f598 f600 f601 f602 => rfl) (fun i g1 => rfl) (by omega) (by omega) (by omega) (pk6_0 _ _ _) (by omega) rfl (by omega) (by omega)
    · refine jr.bipush rfl (by decide) ?_
      exact jr.ireturn rfl rfl rfl (q _ _ hI_M hH_M hS_M  (by omega) (Or.inl ⟨by omega, by omega, rfl, rfl, rfl⟩) (fun a i f598 f600 f601 f602 => rfl) (fun i g1 => rfl))
  · refine jr.if_eq rfl rfl (by omega) (fun _ => ?_) (fun h => absurd (by decide) h)
    refine jr.bipush rfl (by decide) ?_
    exact jr.ireturn rfl rfl rfl (q _ _ hI_M hH_M hS_M  (by omega) (Or.inl ⟨by omega, by omega, rfl, rfl, rfl⟩) (fun a i f598 f600 f601 f602 => rfl) (fun i g1 => rfl))
theorem r_digest_L17_x {A : Nat → Option (Nat × (Nat → Int32))} {Q : Option Value → jm → Prop} {M0 : jm} {x0 : Int} (q : ∀ (r : Int) (M' : jm), RI M' → RH M' → RF M' → (-9223372036854775808) ≤ r ∧ r ≤ 9223372036854775807 → (((x0 < 0 ∨ 23 < x0 ∨ M' 600 x0 = -1) ∧ r = 0) ∨ ((0 ≤ x0 ∧ x0 ≤ 23) ∧ M' 600 x0 ≠ -1 ∧ r = dg (fun j => M' 601 (400 * x0 + j)) (M' 600 x0).toNat)) → (∀ (a : Nat) (i : Int), a ≠ 603 → M' a i = M0 a i) → Q (some (.long (Int64.ofInt r))) M') : ∀ (nM : Nat) (M : jm) (k : Int) (d : Int) (x : Int), RI M → RH M → RF M → (∀ (a : Nat) (i : Int), a ≠ 603 → M a i = M0 a i) → 0 ≤ k ∧ k ≤ 400 → (-9223372036854775808) ≤ d ∧ d ≤ 9223372036854775807 → 0 ≤ x ∧ x ≤ 23 → M 600 x ≠ -1 ∧ k ≤ M 600 x → d = dg (fun j => M 601 (400 * x + j)) k.toNat → x = x0 → 400 - k ≤ nM → jr A 3 xm_252 17 [(4, .int (Int32.ofInt (k))), (2, .long (Int64.ofInt (d))), (1, .int (Int32.ofInt (x))), (0, .ref (598))] [] M Q := by
  intro nM
  induction nM using Nat.strongRecOn with
  | ind nM ih =>
    intro M k d x hI_M hH_M hS_M hF_M h_k h_d h_x hy0 hy1 hy2 hm
    subst hy2
    refine jr.iload rfl rfl ?_
    refine jr.aload_n rfl rfl ?_
    refine jr.getf (i := 3) (v := .ref 600) rfl rfl (by decide) rfl (by decide) rfl rfl rfl rfl ?_
    refine jr.iload_n rfl rfl ?_
    obtain ⟨v1, e1⟩ : ∃ z, M 600 x = z := ⟨_, rfl⟩
    have b1 : (-1) ≤ v1 ∧ v1 ≤ 400 := by rw [← e1]; exact (by have q := hI_M 600 x (by decide); rw [xri_row rfl rfl] at q; exact q)
    refine jr.iald (i := x) (x := v1) rfl (by decide) rfl (by decide) (by omega) (by omega) e1 ?_
    refine jr.icmp_ge rfl rfl (by omega) (by omega) (fun h25 => ?_) (fun h25 => ?_)
    · refine jr.lload_n rfl rfl ?_
      exact jr.lreturn rfl rfl (q _ _ hI_M hH_M hS_M  (by omega) (Or.inr ⟨by omega, by have h9 := hy0; omega, by rw [hy1, e1, show k = v1 from by have h9 := hy0; omega]⟩) (fun a i f603 => (hF_M a i f603)))
    · refine jr.lload_n rfl rfl ?_
      refine jr.aload_n rfl rfl ?_
      refine jr.getf (i := 4) (v := .ref 601) rfl rfl (by decide) rfl (by decide) rfl rfl rfl rfl ?_
      refine jr.sipush rfl (by decide) ?_
      refine jr.iload_n rfl rfl ?_
      refine jr.imul rfl ?_
      refine jr.iload rfl rfl ?_
      refine jr.iadd rfl ?_
      obtain ⟨v2, e2⟩ : ∃ z, M 601 ((400 * x) + k) = z := ⟨_, rfl⟩
      have b2 : 0 ≤ v2 ∧ v2 ≤ 255 := by rw [← e2]; exact (by have q := hI_M 601 ((400 * x) + k) (by decide); rw [xri_row rfl rfl] at q; exact q)
      refine jr.iald (i := ((400 * x) + k)) (x := v2) rfl (by decide) rfl (by decide) (by omega) (by omega) e2 ?_
      refine jr.i2l rfl (by omega) ?_
      refine jr.lxor rfl ?_
      refine jr.ldc2 (x := 1099511628211) rfl rfl (by decide) ?_
      refine jr.lmul rfl ?_
      refine jr.lw (jl_w ((jl_xor d v2) * 1099511628211)) (jl_w_eq _) ?_
      have b3 : -9223372036854775808 ≤ jl_w ((jl_xor d v2) * 1099511628211) ∧ jl_w ((jl_xor d v2) * 1099511628211) ≤ 9223372036854775807 := jbl_any _
      refine jr.lstore_n (ls' := [_, _, _, _]) rfl (by decide) rfl ?_
      refine jr.iinc (ls' := [_, _, _, _]) rfl rfl (by decide) rfl ?_
      refine jr.goto rfl rfl ?_
      refine jr.pick (ls := [_, _, _, _]) [0, 1, 2, 3] rfl rfl ?_
      exact ih (nM - 1) (by omega) M (k + 1) (jl_w ((jl_xor d v2) * 1099511628211)) x hI_M hH_M hS_M  (fun a i f603 => (hF_M a i f603)) (by omega) (by omega) (by omega) (by omega) (by rw [dg_s (by omega), ← hy1, e2]) (by omega) (by omega)
theorem r_digest_x {A : Nat → Option (Nat × (Nat → Int32))} {Q : Option Value → jm → Prop} {M : jm} (hI_M : RI M) (hH_M : RH M) (hS_M : RF M) {x : Int} (h_x : (-2147483648) ≤ x ∧ x ≤ 2147483647) (q : ∀ (r : Int) (M' : jm), RI M' → RH M' → RF M' → (-9223372036854775808) ≤ r ∧ r ≤ 9223372036854775807 → (((x < 0 ∨ 23 < x ∨ M' 600 x = -1) ∧ r = 0) ∨ ((0 ≤ x ∧ x ≤ 23) ∧ M' 600 x ≠ -1 ∧ r = dg (fun j => M' 601 (400 * x + j)) (M' 600 x).toNat)) → (∀ (a : Nat) (i : Int), a ≠ 603 → M' a i = M a i) → Q (some (.long (Int64.ofInt r))) M') : jc A 4 252 [.ref (598), .int (Int32.ofInt (x))] M Q := by
  refine jc_of (m := xm_252) rfl (Nat.le_of_ble_eq_true rfl) rfl ?_
  refine jr.aload_n rfl rfl ?_
  refine jr.iload_n rfl rfl ?_
  refine jr_v rfl rfl (Or.inl rfl) rfl rfl (by decide) rfl ⟨rfl, Nat.le_of_ble_eq_true rfl, Nat.le_of_ble_eq_true rfl⟩ rfl (jc.deep (c_isThere hI_M (by omega) (fun l2 u2 t2 => ?_) (fun n2 => ?_)) (by decide))
  · refine jr.if_ne rfl rfl (by omega) (fun _ => ?_) (fun h => absurd (by decide) h)
    refine jr.ldc2 (x := (-3750763034362895579)) rfl rfl (by decide) ?_
    refine jr.lstore_n (ls' := [_, _, _]) rfl (by decide) rfl ?_
    refine jr.iconst rfl ?_
    refine jr.istore (ls' := [_, _, _, _]) rfl (by decide) rfl ?_
    refine jr.pick (ls := [_, _, _, _]) [0, 1, 3, 2] rfl rfl ?_
    exact r_digest_L17_x q 400 M 0 (-3750763034362895579) x hI_M hH_M hS_M  (fun a i f603 => rfl) (by omega) (by omega) (by omega) (by have nb : (-1 : Int) ≤ M 600 x ∧ M 600 x ≤ 400 := (by have q := hI_M 600 x (by decide); rw [xri_row rfl rfl] at q; exact q); omega) rfl (by omega) (by omega)
  · refine jr.if_ne rfl rfl (by omega) (fun h => absurd h (by decide)) (fun _ => ?_)
    refine jr.lconst (x := 0) rfl (by decide) ?_
    exact jr.lreturn rfl rfl (q _ _ hI_M hH_M hS_M  (by omega) (Or.inl ⟨by omega, by omega⟩) (fun a i f603 => rfl))
end
section
/-! ===== numbers of bytes ===== -/
theorem jl_sho {n b : Int} (hn : 0 ≤ n ∧ n < 140737488355328) (hb : 0 ≤ b ∧ b < 256) : jl_or (jl_shl n 8) b = n * 256 + b := by
  obtain ⟨n, rfl⟩ := Int.eq_ofNat_of_zero_le hn.1
  obtain ⟨b, rfl⟩ := Int.eq_ofNat_of_zero_le hb.1
  have hs : jl_shl (n : Int) 8 = ((n * 256 : Nat) : Int) := by
    unfold jl_shl
    have hN : (Int64.ofInt (n : Int) <<< ((Int32.ofInt 8).toInt64 &&& 63)).toBitVec.toNat = n * 256 := by
      rw [Int64.toBitVec_shiftLeft]
      show ((Int64.ofInt (n : Int)).toBitVec <<< (((Int32.ofInt ((8 : Nat) : Int)).toInt64 &&& 63).toBitVec.smod 64).toNat).toNat = _
      rw [jbl_sl 8 (by decide), BitVec.toNat_shiftLeft, jbl_tn, Nat.shiftLeft_eq]
      omega
    rw [jbl_ti, hN]
    split <;> omega
  rw [hs]
  unfold jl_or
  have hN : (Int64.ofInt ((n * 256 : Nat) : Int) ||| Int64.ofInt (b : Int)).toBitVec.toNat = n * 256 + b := by
    rw [Int64.toBitVec_or, BitVec.toNat_or, jbl_tn, jbl_tn]
    rw [show (((n * 256 : Nat) : Int) % 18446744073709551616).toNat = 2 ^ 8 * n by omega, show ((b : Int) % 18446744073709551616).toNat = b by omega]
    rw [← Nat.two_pow_add_eq_or_of_lt (show b < 2 ^ 8 by omega)]
    omega
  rw [jbl_ti, hN]
  split <;> omega
theorem j_sho {n b : Int} (hn : 0 ≤ n ∧ n < 65536) (hb : 0 ≤ b ∧ b < 256) : j_or (j_shl n 8) b = n * 256 + b := by
  obtain ⟨n, rfl⟩ := Int.eq_ofNat_of_zero_le hn.1
  obtain ⟨b, rfl⟩ := Int.eq_ofNat_of_zero_le hb.1
  have hs : j_shl (n : Int) 8 = ((n * 256 : Nat) : Int) := by
    have := j_shl_ex (x := (n : Int)) 8 (by decide) (by omega) (by omega)
    rw [show ((8 : Nat) : Int) = 8 from rfl] at this
    rw [this]
    omega
  rw [hs]
  unfold j_or
  have hN : (Int32.ofInt ((n * 256 : Nat) : Int) ||| Int32.ofInt (b : Int)).toBitVec.toNat = n * 256 + b := by
    rw [Int32.toBitVec_or, BitVec.toNat_or, jb_tn, jb_tn]
    rw [show (((n * 256 : Nat) : Int) % 4294967296).toNat = 2 ^ 8 * n by omega, show ((b : Int) % 4294967296).toNat = b by omega]
    rw [← Nat.two_pow_add_eq_or_of_lt (show b < 2 ^ 8 by omega)]
    omega
  rw [jb_ti, hN]
  split <;> omega
noncomputable def nbs (f : Int → Int) (y : Int) : Nat → Int
  | 0 => 0
  | k + 1 => nbs f y k * 256 + f (y + k)
theorem nbs_s {f : Int → Int} {y i : Int} (h : y ≤ i) : nbs f y (i + 1 - y).toNat = nbs f y (i - y).toNat * 256 + f i := by
  obtain ⟨n, hn⟩ : ∃ n : Nat, i = y + n := ⟨(i - y).toNat, by omega⟩
  subst hn
  rw [show (y + (n : Int) + 1 - y).toNat = n + 1 by omega, show (y + (n : Int) - y).toNat = n by omega]
  rfl
theorem nbs_0 (f : Int → Int) (y : Int) : nbs f y (y - y).toNat = 0 := by
  rw [show (y - y).toNat = 0 by omega]
  rfl
theorem nbs_1 (f : Int → Int) (y : Int) : nbs f y 1 = f y := by
  show 0 * 256 + f (y + ((0 : Nat) : Int)) = f y
  rw [show y + ((0 : Nat) : Int) = y by omega]
  omega
theorem nbs_2 (f : Int → Int) (y : Int) : nbs f y 2 = f y * 256 + f (y + 1) := by
  show nbs f y 1 * 256 + f (y + ((1 : Nat) : Int)) = _
  rw [nbs_1]
  rfl
end
