section
/-! ===== the reference: export ===== -/
theorem j_or_a {x y : Int} (k : Nat) (hk : k < 31) (hx : 0 ≤ x ∧ x < ((2 ^ k : Nat) : Int)) (hy : y = ((2 ^ k : Nat) : Int) ∨ y = 0) : j_or x y = x + y := by
  obtain ⟨n, rfl⟩ := Int.eq_ofNat_of_zero_le hx.1
  have hp : 2 ^ k ≤ 2 ^ 30 := Nat.pow_le_pow_right (by decide) (by omega)
  have hn : n < 2 ^ k := by omega
  rcases hy with rfl | rfl
  · unfold j_or
    have hN : (Int32.ofInt (n : Int) ||| Int32.ofInt ((2 ^ k : Nat) : Int)).toBitVec.toNat = n + 2 ^ k := by
      rw [Int32.toBitVec_or, BitVec.toNat_or, jb_tn, jb_tn]
      rw [show ((n : Int) % 4294967296).toNat = n by omega, show (((2 ^ k : Nat) : Int) % 4294967296).toNat = 2 ^ k * 1 by omega]
      rw [Nat.or_comm, ← Nat.two_pow_add_eq_or_of_lt hn]
      omega
    rw [jb_ti, hN]
    split <;> omega
  · unfold j_or
    have hN : (Int32.ofInt (n : Int) ||| Int32.ofInt 0).toBitVec.toNat = n := by
      rw [Int32.toBitVec_or, BitVec.toNat_or, jb_tn, jb_tn]
      rw [show ((n : Int) % 4294967296).toNat = n by omega, show ((0 : Int) % 4294967296).toNat = 0 by omega]
      exact Nat.or_zero n
    rw [jb_ti, hN]
    split <;> omega
noncomputable def flg6 (M : jm) (i : Int) : Int := (if M 628 i = 0 then 0 else 16) + (if M 632 (2 * i) = 0 then 0 else 32) + (if M 632 (2 * i + 1) = 0 then 0 else 64) + (if M 634 (2 * i + 1) = 0 then 0 else 128)
noncomputable def u6x (M : jm) (i : Int) : Int := if M 627 i ≠ 0 ∧ M 640 i = -1 then 1 else 0
noncomputable def l6x (M : jm) (j : Int) : Int := if M 632 j = 0 then 0 else M 633 j
/-- the row that a flow of the reference tells -/
noncomputable def B6x (M : jm) (i : Int) : Int → Int := xrB (M 629 i) (M 638 i + flg6 M i) (M 631 (2 * i)) (M 631 (2 * i + 1)) (M 635 (2 * i)) (M 635 (2 * i + 1)) (M 630 (2 * i)) (M 630 (2 * i + 1)) (l6x M (2 * i)) (l6x M (2 * i + 1)) (j_w (M 639 i - M 598 2)) (jl_w (M 636 (2 * i) + M 636 (2 * i + 1))) (jl_w (M 637 (2 * i) + M 637 (2 * i + 1)))
theorem u6_0 {M : jm} {i : Int} (h : ¬ (M 627 i ≠ 0 ∧ M 640 i = -1)) : u6x M i = 0 := if_neg h
theorem u6_1 {M : jm} {i : Int} (h : M 627 i ≠ 0 ∧ M 640 i = -1) : u6x M i = 1 := if_pos h
theorem ref_fin {f g gs : Int → Int} {t n s p0 p1 w0 w1 a0 a1 l0 l1 u pk by_ r : Int} (h1 : gs = lyE (ptn (ptn (ry1 (ly0 f t n s) t p0 p1 w0 w1 a0 a1) (t + 26) 4 l0) (t + 30) 4 l1) t u pk by_) (h2 : g = ptn gs (t + 46) 2 r) (h3 : r = tn (sb gs t (t + 46 - t).toNat)) : g = rwl f t (xrB n s p0 p1 w0 w1 a0 a1 l0 l1 u pk by_) := by
  rw [ryx] at h1
  rw [h2, h3, h1, show (t + 46 - t).toNat = 46 by omega]
  rfl
theorem r_sumOfTape_L5_x {A : Nat → Option (Nat × (Nat → Int32))} {Q : Option Value → jm → Prop} {a0 : Int} {t0 : Int} {M : jm} (hI_M : RI M) (hH_M : RH M) (hS_M : RF M) (q : ∀ (r : Int), 0 ≤ r ∧ r ≤ 65535 → r = tn (sb (M 599) a0 (t0 - a0).toNat) → Q (some (.int (Int32.ofInt r))) M) : ∀ (nM : Nat) (k : Int) (s : Int) (t : Int) (a : Int), 0 ≤ k ∧ k ≤ 1600 → 0 ≤ s ∧ s ≤ 110000000 → 0 ≤ t ∧ t ≤ 1600 → 0 ≤ a ∧ a ≤ 1600 → ((t - k) % 2 = 0 ∧ (k - a) % 2 = 0) → s = sb (M 599) a (k - a).toNat → a ≤ k ∧ k ≤ t → s ≤ 65535 * (k - a) → a = a0 → t = t0 → 1600 - k ≤ nM → jr A 1 xm_323 5 [(5, .int (Int32.ofInt (k))), (3, .long (Int64.ofInt (s))), (2, .int (Int32.ofInt (t))), (1, .int (Int32.ofInt (a))), (0, .ref (598))] [] M Q := by
  intro nM
  induction nM using Nat.strongRecOn with
  | ind nM ih =>
    intro k s t a h_k h_s h_t h_a hy0 hy1 hy2 hy3 hy4 hy5 hm
    subst hy4
    subst hy5
    refine jr.iload rfl rfl ?_
    refine jr.iload_n rfl rfl ?_
    refine jr.icmp_ge rfl rfl (by first | (refine rgb (by assumption) ?_; exact rfl) | omega) (by first | (refine rgb (by assumption) ?_; exact rfl) | omega) (fun h8 => ?_) (fun h8 => ?_)
    · refine jr.lload_n rfl rfl ?_
      refine jr_s rfl rfl (Or.inl rfl) ⟨Nat.le_of_ble_eq_true rfl, Nat.le_of_ble_eq_true rfl⟩ rfl rfl (jc.deep (r_turned_x hI_M hH_M hS_M  (by omega)  (fun r1 z1 w1_0 => ?_)) (Nat.le_of_ble_eq_true rfl))
      exact jr.ireturn rfl rfl rfl (q _ (by omega) (by rw [← show k = t from by omega, ← hy1]; exact w1_0))
    · refine jr.lload_n rfl rfl ?_
      refine jr.aload_n rfl rfl ?_
      refine jr.getf (i := 0) (v := .ref 599) rfl rfl (nlt rfl) rfl (nlt rfl) rfl rfl rfl rfl ?_
      refine jr.iload rfl rfl ?_
      obtain ⟨v2, e2⟩ : ∃ z, M 599 k = z := ⟨_, rfl⟩
      have b2 : 0 ≤ v2 ∧ v2 ≤ 255 := by rw [← e2]; exact (by have q := hI_M 599 k (Nat.le_of_ble_eq_true rfl); rw [xri_row rfl rfl] at q; exact q)
      refine jr.iald (i := k) (x := v2) rfl (nlt rfl) rfl (Nat.le_of_ble_eq_true rfl) (by omega) (by omega) e2 ?_
      refine jr.bipush rfl (jbp _ (nlt rfl)) ?_
      refine jr.ishl rfl ?_
      refine jr.aload_n rfl rfl ?_
      refine jr.getf (i := 0) (v := .ref 599) rfl rfl (nlt rfl) rfl (nlt rfl) rfl rfl rfl rfl ?_
      refine jr.iload rfl rfl ?_
      refine jr.iconst rfl ?_
      refine jr.iadd rfl ?_
      obtain ⟨v3, e3⟩ : ∃ z, M 599 (k + 1) = z := ⟨_, rfl⟩
      have b3 : 0 ≤ v3 ∧ v3 ≤ 255 := by rw [← e3]; exact (by have q := hI_M 599 (k + 1) (Nat.le_of_ble_eq_true rfl); rw [xri_row rfl rfl] at q; exact q)
      refine jr.iald (i := (k + 1)) (x := v3) rfl (nlt rfl) rfl (Nat.le_of_ble_eq_true rfl) (by omega) (by omega) e3 ?_
      refine jr.ior rfl ?_
      have b4 : j_or (j_shl v2 8) v3 = v2 * 256 + v3 := j_sho (by omega) (by omega)
      generalize j_or (j_shl v2 8) v3 = v4 at b4 ⊢
      refine jr.i2l rfl (by omega) ?_
      refine jr.ladd rfl ?_
      refine jr.lstore_n (ls' := [_, _, _, _, _]) rfl (nlt rfl) rfl ?_
      refine jr.iinc (ls' := [_, _, _, _, _]) rfl rfl (nlt rfl) rfl ?_
      refine jr.goto rfl rfl ?_
      refine jr.pick (ls := [_, _, _, _, _]) [0, 1, 2, 3, 4] rfl rfl ?_
      exact ih (nM - 1) (by omega) (k + 2) (s + v4) t a (by omega) (by omega) (by omega) (by omega) (by omega) (by have hs := sb_s (f := M 599) (a := a) (i := k + 1) (by omega); have hs2 := sb_s (f := M 599) (a := a) (i := k) (by omega); rw [if_neg (by omega)] at hs; rw [if_pos (by omega)] at hs2; rw [show k + 2 = k + 1 + 1 from by omega, hs, hs2, ← hy1]; omega) (by omega) (by omega) (by omega) (by omega) (by omega)
theorem r_sumOfTape_x {A : Nat → Option (Nat × (Nat → Int32))} {Q : Option Value → jm → Prop} {M : jm} (hI_M : RI M) (hH_M : RH M) (hS_M : RF M) {a : Int} (h_a : 0 ≤ a ∧ a ≤ 1600) {t : Int} (h_t : 0 ≤ t ∧ t ≤ 1600) (p0 : ((t - a) % 2 = 0 ∧ a ≤ t)) (q : ∀ (r : Int), 0 ≤ r ∧ r ≤ 65535 → r = tn (sb (M 599) a (t - a).toNat) → Q (some (.int (Int32.ofInt r))) M) : jc A 2 323 [.ref (598), .int (Int32.ofInt (a)), .int (Int32.ofInt (t))] M Q := by
  refine jc_of (m := xm_323) rfl (Nat.le_of_ble_eq_true rfl) rfl ?_
  refine jr.lconst (x := 0) rfl (by decide) ?_
  refine jr.lstore_n (ls' := [_, _, _, _]) rfl (nlt rfl) rfl ?_
  refine jr.iload_n rfl rfl ?_
  refine jr.istore (ls' := [_, _, _, _, _]) rfl (nlt rfl) rfl ?_
  refine jr.pick (ls := [_, _, _, _, _]) [0, 1, 4, 3, 2] rfl rfl ?_
  exact r_sumOfTape_L5_x hI_M hH_M hS_M q 1600 a 0 t a (by omega) (by omega) (by omega) (by omega) (by omega) (sb_0 _ _).symm (by omega) (by omega) (by omega) (by omega) (by omega)
theorem r_export_L317_x {A : Nat → Option (Nat × (Nat → Int32))} {Q : Option Value → jm → Prop} {M0 : jm} (q : ∀ (r : Int) (M' : jm), RI M' → RH M' → RF M' → 0 ≤ r ∧ r ≤ 1600 → (M' 599 = (exL (u6x M0) (B6x M0) (M0 599) 24).1 ∧ M' 598 1 = (exL (u6x M0) (B6x M0) (M0 599) 24).2 ∧ r = M' 598 1) → (∀ (a : Nat) (i : Int), a ≠ 598 → a ≠ 599 → M' a i = M0 a i) → (∀ (i : Int), i ≠ 1 → M' 598 i = M0 598 i) → Q (some (.int (Int32.ofInt r))) M') (nO : Nat) (ko : ∀ (M : jm) (f : Int), RI M → RH M → RF M → (∀ (a : Nat) (i : Int), a ≠ 598 → a ≠ 599 → M a i = M0 a i) → (∀ (i : Int), i ≠ 1 → M 598 i = M0 598 i) → 0 ≤ f ∧ f ≤ 24 → 0 ≤ M 598 1 ∧ M 598 1 ≤ 1152 → M 598 1 ≤ 48 * f → (M 599 = (exL (u6x M0) (B6x M0) (M0 599) f.toNat).1 ∧ M 598 1 = (exL (u6x M0) (B6x M0) (M0 599) f.toNat).2) → 24 - f ≤ nO → jr A 2 xm_326 7 [(1, .int (Int32.ofInt (f))), (0, .ref (598))] [] M Q) : ∀ (M : jm) (b : Int) (a : Int) (t : Int) (f : Int) (u : Int) (w : Int), RI M → RH M → RF M → (∀ (a : Nat) (i : Int), a ≠ 598 → a ≠ 599 → M a i = M0 a i) → (∀ (i : Int), i ≠ 1 → M 598 i = M0 598 i) → 0 ≤ b ∧ b ≤ 47 → 0 ≤ a ∧ a ≤ 46 → 0 ≤ t ∧ t ≤ 1104 → 0 ≤ f ∧ f ≤ 23 → 0 ≤ u ∧ u ≤ 1596 → (-9223372036854775808) ≤ w ∧ w ≤ 9223372036854775807 → 24 - (f + 1) ≤ nO → a = 2 * f → b = 2 * f + 1 → t ≤ 48 * f → M 598 1 = t → u = t + 30 → t = (exL (u6x M0) (B6x M0) (M0 599) f.toNat).2 ∧ u6x M0 f ≠ 0 → M 599 = ptn (ry1 (ly0 (exL (u6x M0) (B6x M0) (M0 599) f.toNat).1 t (M0 629 f) (M0 638 f + flg6 M0 f)) t (M0 631 (2 * f)) (M0 631 (2 * f + 1)) (M0 635 (2 * f)) (M0 635 (2 * f + 1)) (M0 630 (2 * f)) (M0 630 (2 * f + 1))) (t + 26) 4 (l6x M0 (2 * f)) → w = l6x M0 (2 * f + 1) → jr A 2 xm_326 317 [(4, .int (Int32.ofInt (b))), (3, .int (Int32.ofInt (a))), (2, .int (Int32.ofInt (t))), (1, .int (Int32.ofInt (f))), (0, .ref (598))] [.long (Int64.ofInt (w)), .int (Int32.ofInt (u)), .ref (598)] M Q := by
    intro M b a t f u w hI_M hH_M hS_M hF_M hG_M h_b h_a h_t h_f h_u h_w hy0 hy1 hy2 hy3 hy4 hy5 hy6 hy7 hy8
    refine jr_v rfl rfl (Or.inl rfl) rfl rfl (nlt rfl) rfl ⟨rfl, Nat.le_of_ble_eq_true rfl, Nat.le_of_ble_eq_true rfl⟩ rfl (jc.deep (r_tapeFour_x hI_M hH_M hS_M  (by omega) (by omega)  (fun M1 hI_M1 hH_M1 hS_M1  w1_0 w1_1 => ?_)) (Nat.le_of_ble_eq_true rfl))
    refine jr.aload_n rfl rfl ?_
    refine jr.iload_n rfl rfl ?_
    refine jr.bipush rfl (jbp _ (nlt rfl)) ?_
    refine jr.iadd rfl ?_
    refine jr.aload_n rfl rfl ?_
    refine jr.getf (i := 51) (v := .ref 639) rfl rfl (nlt rfl) rfl (nlt rfl) rfl rfl rfl rfl ?_
    refine jr.iload_n rfl rfl ?_
    obtain ⟨v2, e2⟩ : ∃ z, M 639 f = z := ⟨_, rfl⟩
    have b2 : (-2147483648) ≤ v2 ∧ v2 ≤ 2147483647 := by rw [← e2]; exact (by have q := hI_M 639 f (Nat.le_of_ble_eq_true rfl); rw [xri_row rfl rfl] at q; exact q)
    have e3 : M1 639 f = v2 := ((w1_1 639 f (nne rfl)).trans e2)
    refine jr.iald (i := f) (x := v2) rfl (nlt rfl) rfl (Nat.le_of_ble_eq_true rfl) (by omega) (by omega) e3 ?_
    refine jr.aload_n rfl rfl ?_
    obtain ⟨v4, e4⟩ : ∃ z, M 598 2 = z := ⟨_, rfl⟩
    have b4 : 0 ≤ v4 ∧ v4 ≤ 2000000 := by rw [← e4]; exact hI_M 598 2 (Nat.le_of_ble_eq_true rfl)
    have e5 : M1 598 2 = v4 := ((w1_1 598 2 (nne rfl)).trans e4)
    refine jr.getf (i := 2) (x := v4) (v := .int (Int32.ofInt (v4))) rfl rfl (nlt rfl) rfl (nlt rfl) rfl rfl e5 rfl ?_
    refine jr.isub rfl ?_
    refine jr.iw (j_w (v2 - v4)) (j_w_eq _) ?_
    have b6 : -2147483648 ≤ j_w (v2 - v4) ∧ j_w (v2 - v4) ≤ 2147483647 := jb_any _
    refine jr.i2l rfl (by omega) ?_
    refine jr_v rfl rfl (Or.inl rfl) rfl rfl (nlt rfl) rfl ⟨rfl, Nat.le_of_ble_eq_true rfl, Nat.le_of_ble_eq_true rfl⟩ rfl (jc.deep (r_tapeFour_x hI_M1 hH_M1 hS_M1  (by omega) (by omega)  (fun M7 hI_M7 hH_M7 hS_M7  w7_0 w7_1 => ?_)) (Nat.le_of_ble_eq_true rfl))
    refine jr.aload_n rfl rfl ?_
    refine jr.iload_n rfl rfl ?_
    refine jr.bipush rfl (jbp _ (nlt rfl)) ?_
    refine jr.iadd rfl ?_
    refine jr.aload_n rfl rfl ?_
    refine jr.getf (i := 48) (v := .ref 636) rfl rfl (nlt rfl) rfl (nlt rfl) rfl rfl rfl rfl ?_
    refine jr.iload_n rfl rfl ?_
    obtain ⟨v8, e8⟩ : ∃ z, M 636 a = z := ⟨_, rfl⟩
    have b8 : (-9223372036854775808) ≤ v8 ∧ v8 ≤ 9223372036854775807 := by rw [← e8]; exact (by have q := hI_M 636 a (Nat.le_of_ble_eq_true rfl); rw [xri_row rfl rfl] at q; exact q)
    have e9 : M1 636 a = v8 := ((w1_1 636 a (nne rfl)).trans e8)
    have e10 : M7 636 a = v8 := ((w7_1 636 a (nne rfl)).trans e9)
    refine jr.lald (i := a) (x := v8) rfl (nlt rfl) rfl (Nat.le_of_ble_eq_true rfl) (by omega) (by omega) e10 ?_
    refine jr.aload_n rfl rfl ?_
    refine jr.getf (i := 48) (v := .ref 636) rfl rfl (nlt rfl) rfl (nlt rfl) rfl rfl rfl rfl ?_
    refine jr.iload rfl rfl ?_
    obtain ⟨v11, e11⟩ : ∃ z, M 636 b = z := ⟨_, rfl⟩
    have b11 : (-9223372036854775808) ≤ v11 ∧ v11 ≤ 9223372036854775807 := by rw [← e11]; exact (by have q := hI_M 636 b (Nat.le_of_ble_eq_true rfl); rw [xri_row rfl rfl] at q; exact q)
    have e12 : M1 636 b = v11 := ((w1_1 636 b (nne rfl)).trans e11)
    have e13 : M7 636 b = v11 := ((w7_1 636 b (nne rfl)).trans e12)
    refine jr.lald (i := b) (x := v11) rfl (nlt rfl) rfl (Nat.le_of_ble_eq_true rfl) (by omega) (by omega) e13 ?_
    refine jr.ladd rfl ?_
    refine jr.lw (jl_w (v8 + v11)) (jl_w_eq _) ?_
    have b14 : -9223372036854775808 ≤ jl_w (v8 + v11) ∧ jl_w (v8 + v11) ≤ 9223372036854775807 := jbl_any _
    refine jr_v rfl rfl (Or.inl rfl) rfl rfl (nlt rfl) rfl ⟨rfl, Nat.le_of_ble_eq_true rfl, Nat.le_of_ble_eq_true rfl⟩ rfl (jc.deep (r_tapeFour_x hI_M7 hH_M7 hS_M7  (by omega) (by omega)  (fun M15 hI_M15 hH_M15 hS_M15  w15_0 w15_1 => ?_)) (Nat.le_of_ble_eq_true rfl))
    refine jr.aload_n rfl rfl ?_
    refine jr.iload_n rfl rfl ?_
    refine jr.bipush rfl (jbp _ (nlt rfl)) ?_
    refine jr.iadd rfl ?_
    refine jr.aload_n rfl rfl ?_
    refine jr.getf (i := 49) (v := .ref 637) rfl rfl (nlt rfl) rfl (nlt rfl) rfl rfl rfl rfl ?_
    refine jr.iload_n rfl rfl ?_
    obtain ⟨v16, e16⟩ : ∃ z, M 637 a = z := ⟨_, rfl⟩
    have b16 : (-9223372036854775808) ≤ v16 ∧ v16 ≤ 9223372036854775807 := by rw [← e16]; exact (by have q := hI_M 637 a (Nat.le_of_ble_eq_true rfl); rw [xri_row rfl rfl] at q; exact q)
    have e17 : M1 637 a = v16 := ((w1_1 637 a (nne rfl)).trans e16)
    have e18 : M7 637 a = v16 := ((w7_1 637 a (nne rfl)).trans e17)
    have e19 : M15 637 a = v16 := ((w15_1 637 a (nne rfl)).trans e18)
    refine jr.lald (i := a) (x := v16) rfl (nlt rfl) rfl (Nat.le_of_ble_eq_true rfl) (by omega) (by omega) e19 ?_
    refine jr.aload_n rfl rfl ?_
    refine jr.getf (i := 49) (v := .ref 637) rfl rfl (nlt rfl) rfl (nlt rfl) rfl rfl rfl rfl ?_
    refine jr.iload rfl rfl ?_
    obtain ⟨v20, e20⟩ : ∃ z, M 637 b = z := ⟨_, rfl⟩
    have b20 : (-9223372036854775808) ≤ v20 ∧ v20 ≤ 9223372036854775807 := by rw [← e20]; exact (by have q := hI_M 637 b (Nat.le_of_ble_eq_true rfl); rw [xri_row rfl rfl] at q; exact q)
    have e21 : M1 637 b = v20 := ((w1_1 637 b (nne rfl)).trans e20)
    have e22 : M7 637 b = v20 := ((w7_1 637 b (nne rfl)).trans e21)
    have e23 : M15 637 b = v20 := ((w15_1 637 b (nne rfl)).trans e22)
    refine jr.lald (i := b) (x := v20) rfl (nlt rfl) rfl (Nat.le_of_ble_eq_true rfl) (by omega) (by omega) e23 ?_
    refine jr.ladd rfl ?_
    refine jr.lw (jl_w (v16 + v20)) (jl_w_eq _) ?_
    have b24 : -9223372036854775808 ≤ jl_w (v16 + v20) ∧ jl_w (v16 + v20) ≤ 9223372036854775807 := jbl_any _
    refine jr_v rfl rfl (Or.inl rfl) rfl rfl (nlt rfl) rfl ⟨rfl, Nat.le_of_ble_eq_true rfl, Nat.le_of_ble_eq_true rfl⟩ rfl (jc.deep (r_tapeFour_x hI_M15 hH_M15 hS_M15  (by omega) (by omega)  (fun M25 hI_M25 hH_M25 hS_M25  w25_0 w25_1 => ?_)) (Nat.le_of_ble_eq_true rfl))
    refine jr.aload_n rfl rfl ?_
    refine jr.iload_n rfl rfl ?_
    refine jr.bipush rfl (jbp _ (nlt rfl)) ?_
    refine jr.iadd rfl ?_
    refine jr.aload_n rfl rfl ?_
    refine jr.iload_n rfl rfl ?_
    refine jr.iload_n rfl rfl ?_
    refine jr.bipush rfl (jbp _ (nlt rfl)) ?_
    refine jr.iadd rfl ?_
    refine jr_v rfl rfl (Or.inl rfl) rfl rfl (nlt rfl) rfl ⟨rfl, Nat.le_of_ble_eq_true rfl, Nat.le_of_ble_eq_true rfl⟩ rfl (jc.deep (r_sumOfTape_x hI_M25 hH_M25 hS_M25  (by omega) (by omega) (by omega) (fun r26 z26 w26_0 => ?_)) (Nat.le_of_ble_eq_true rfl))
    refine jr_v rfl rfl (Or.inl rfl) rfl rfl (nlt rfl) rfl ⟨rfl, Nat.le_of_ble_eq_true rfl, Nat.le_of_ble_eq_true rfl⟩ rfl (jc.deep (r_tapeTwo_x hI_M25 hH_M25 hS_M25  (by omega) (by omega)  (fun M27 hI_M27 hH_M27 hS_M27  w27_0 w27_1 => ?_)) (Nat.le_of_ble_eq_true rfl))
    refine jr.aload_n rfl rfl ?_
    refine jr.dup rfl rfl ?_
    obtain ⟨v28, e28⟩ : ∃ z, M 598 1 = z := ⟨_, rfl⟩
    have b28 : 0 ≤ v28 ∧ v28 ≤ 1600 := by rw [← e28]; exact hI_M 598 1 (Nat.le_of_ble_eq_true rfl)
    have e29 : M1 598 1 = v28 := ((w1_1 598 1 (nne rfl)).trans e28)
    have e30 : M7 598 1 = v28 := ((w7_1 598 1 (nne rfl)).trans e29)
    have e31 : M15 598 1 = v28 := ((w15_1 598 1 (nne rfl)).trans e30)
    have e32 : M25 598 1 = v28 := ((w25_1 598 1 (nne rfl)).trans e31)
    have e33 : M27 598 1 = v28 := ((w27_1 598 1 (nne rfl)).trans e32)
    refine jr.getf (i := 1) (x := v28) (v := .int (Int32.ofInt (v28))) rfl rfl (nlt rfl) rfl (nlt rfl) rfl rfl e33 rfl ?_
    refine jr.bipush rfl (jbp _ (nlt rfl)) ?_
    refine jr.iadd rfl ?_
    refine jr.putf (i := 1) (x := (v28 + 48)) rfl rfl (nlt rfl) rfl (nlt rfl) rfl rfl rfl rfl rfl ?_
    refine jr.iinc (ls' := [_, _, _, _, _]) rfl rfl (nlt rfl) rfl ?_
    refine jr.goto rfl rfl ?_
    refine jr.pick (ls := [_, _]) [0, 4] rfl rfl ?_
    exact ko (ju M27 598 1 (v28 + 48)) (f + 1) (RI.u hI_M27 (a := 598) (i := 1) (show (0 : Int) ≤ _ ∧ _ ≤ (1600 : Int) from by omega)) (RH.o hH_M27 (by decide) (by decide) (by decide)) (RF.o hS_M27 (by decide) (by decide))  (fun a i f598 f599 => ((ju_c _ _ f598).trans ((w27_1 a i f599).trans ((w25_1 a i f599).trans ((w15_1 a i f599).trans ((w7_1 a i f599).trans ((w1_1 a i f599).trans (hF_M a i f598 f599)))))))) (fun i g1 => ((ju_i _ _ g1).trans ((w27_1 598 i (nne rfl)).trans ((w25_1 598 i (nne rfl)).trans ((w15_1 598 i (nne rfl)).trans ((w7_1 598 i (nne rfl)).trans ((w1_1 598 i (nne rfl)).trans (hG_M i g1)))))))) (by omega) (by rw [(ju_same _ _ _ _)]; omega) (by rw [(ju_same _ _ _ _)]; omega) (by rw [exL_s (by omega), if_neg hy6.2]; exact ⟨(by show (ju M27 598 1 (v28 + 48)) 599 = rwl (exL (u6x M0) (B6x M0) (M0 599) f.toNat).1 (exL (u6x M0) (B6x M0) (M0 599) f.toNat).2 (B6x M0 f); rw [show (ju M27 598 1 (v28 + 48)) 599 = M27 599 from funext (fun k => ju_c _ _ (by decide)), ← hy6.1]; exact ref_fin (by rw [w25_0, w15_0, w7_0, w1_0, hy7, hy5, (show M0 639 f = v2 from (hF_M 639 f (nne rfl) (nne rfl)).symm.trans e2), (show M0 598 2 = v4 from (hG_M 2 (zne rfl)).symm.trans e4), (show M0 636 (2 * f) = v8 from (by rw [← hy1]; exact (hF_M 636 a (nne rfl) (nne rfl)).symm.trans e8)), (show M0 636 (2 * f + 1) = v11 from (by rw [← hy2]; exact (hF_M 636 b (nne rfl) (nne rfl)).symm.trans e11)), (show M0 637 (2 * f) = v16 from (by rw [← hy1]; exact (hF_M 637 a (nne rfl) (nne rfl)).symm.trans e16)), (show M0 637 (2 * f + 1) = v20 from (by rw [← hy2]; exact (hF_M 637 b (nne rfl) (nne rfl)).symm.trans e20)), ← hy8]; rfl) w27_0 w26_0), (by show (ju M27 598 1 (v28 + 48)) 598 1 = (exL (u6x M0) (B6x M0) (M0 599) f.toNat).2 + 48; rw [ju_same, ← hy6.1]; omega)⟩) (by omega)
theorem r_export_L287_x {A : Nat → Option (Nat × (Nat → Int32))} {Q : Option Value → jm → Prop} {M0 : jm} (q : ∀ (r : Int) (M' : jm), RI M' → RH M' → RF M' → 0 ≤ r ∧ r ≤ 1600 → (M' 599 = (exL (u6x M0) (B6x M0) (M0 599) 24).1 ∧ M' 598 1 = (exL (u6x M0) (B6x M0) (M0 599) 24).2 ∧ r = M' 598 1) → (∀ (a : Nat) (i : Int), a ≠ 598 → a ≠ 599 → M' a i = M0 a i) → (∀ (i : Int), i ≠ 1 → M' 598 i = M0 598 i) → Q (some (.int (Int32.ofInt r))) M') (nO : Nat) (ko : ∀ (M : jm) (f : Int), RI M → RH M → RF M → (∀ (a : Nat) (i : Int), a ≠ 598 → a ≠ 599 → M a i = M0 a i) → (∀ (i : Int), i ≠ 1 → M 598 i = M0 598 i) → 0 ≤ f ∧ f ≤ 24 → 0 ≤ M 598 1 ∧ M 598 1 ≤ 1152 → M 598 1 ≤ 48 * f → (M 599 = (exL (u6x M0) (B6x M0) (M0 599) f.toNat).1 ∧ M 598 1 = (exL (u6x M0) (B6x M0) (M0 599) f.toNat).2) → 24 - f ≤ nO → jr A 2 xm_326 7 [(1, .int (Int32.ofInt (f))), (0, .ref (598))] [] M Q) : ∀ (M : jm) (b : Int) (a : Int) (t : Int) (f : Int) (u : Int) (w : Int), RI M → RH M → RF M → (∀ (a : Nat) (i : Int), a ≠ 598 → a ≠ 599 → M a i = M0 a i) → (∀ (i : Int), i ≠ 1 → M 598 i = M0 598 i) → 0 ≤ b ∧ b ≤ 47 → 0 ≤ a ∧ a ≤ 46 → 0 ≤ t ∧ t ≤ 1104 → 0 ≤ f ∧ f ≤ 23 → 0 ≤ u ∧ u ≤ 1596 → (-9223372036854775808) ≤ w ∧ w ≤ 9223372036854775807 → 24 - (f + 1) ≤ nO → a = 2 * f → b = 2 * f + 1 → t ≤ 48 * f → M 598 1 = t → u = t + 26 → t = (exL (u6x M0) (B6x M0) (M0 599) f.toNat).2 ∧ u6x M0 f ≠ 0 → M 599 = ry1 (ly0 (exL (u6x M0) (B6x M0) (M0 599) f.toNat).1 t (M0 629 f) (M0 638 f + flg6 M0 f)) t (M0 631 (2 * f)) (M0 631 (2 * f + 1)) (M0 635 (2 * f)) (M0 635 (2 * f + 1)) (M0 630 (2 * f)) (M0 630 (2 * f + 1)) → w = l6x M0 (2 * f) → jr A 2 xm_326 287 [(4, .int (Int32.ofInt (b))), (3, .int (Int32.ofInt (a))), (2, .int (Int32.ofInt (t))), (1, .int (Int32.ofInt (f))), (0, .ref (598))] [.long (Int64.ofInt (w)), .int (Int32.ofInt (u)), .ref (598)] M Q := by
    intro M b a t f u w hI_M hH_M hS_M hF_M hG_M h_b h_a h_t h_f h_u h_w hy0 hy1 hy2 hy3 hy4 hy5 hy6 hy7 hy8
    refine jr_v rfl rfl (Or.inl rfl) rfl rfl (nlt rfl) rfl ⟨rfl, Nat.le_of_ble_eq_true rfl, Nat.le_of_ble_eq_true rfl⟩ rfl (jc.deep (r_tapeFour_x hI_M hH_M hS_M  (by omega) (by omega)  (fun M1 hI_M1 hH_M1 hS_M1  w1_0 w1_1 => ?_)) (Nat.le_of_ble_eq_true rfl))
    refine jr.aload_n rfl rfl ?_
    refine jr.iload_n rfl rfl ?_
    refine jr.bipush rfl (jbp _ (nlt rfl)) ?_
    refine jr.iadd rfl ?_
    refine jr.aload_n rfl rfl ?_
    refine jr.getf (i := 44) (v := .ref 632) rfl rfl (nlt rfl) rfl (nlt rfl) rfl rfl rfl rfl ?_
    refine jr.iload rfl rfl ?_
    obtain ⟨v2, e2⟩ : ∃ z, M 632 b = z := ⟨_, rfl⟩
    have b2 : 0 ≤ v2 ∧ v2 ≤ 1 := by rw [← e2]; exact (by have q := hI_M 632 b (Nat.le_of_ble_eq_true rfl); rw [xri_row rfl rfl] at q; exact q)
    have e3 : M1 632 b = v2 := ((w1_1 632 b (nne rfl)).trans e2)
    refine jr.zald (i := b) (x := v2) rfl (nlt rfl) rfl (Nat.le_of_ble_eq_true rfl) (by omega) (by omega) e3 ?_
    refine jr.if_eq rfl rfl (by first | (refine rgb (by assumption) ?_; exact rfl) | omega) (fun h302 => ?_) (fun h302 => ?_)
    · refine jr.lconst (x := 0) rfl (by decide) ?_
      obtain ⟨v4, e4⟩ : ∃ z, M 598 1 = z := ⟨_, rfl⟩
      have b4 : 0 ≤ v4 ∧ v4 ≤ 1600 := by rw [← e4]; exact hI_M 598 1 (Nat.le_of_ble_eq_true rfl)
      have e5 : M1 598 1 = v4 := ((w1_1 598 1 (nne rfl)).trans e4)
      refine jr.pick (ls := [_, _, _, _, _]) [0, 1, 2, 3, 4] rfl rfl ?_
      exact r_export_L317_x q nO ko M1 b a t f (t + 30) 0 hI_M1 hH_M1 hS_M1  (fun a i f598 f599 => ((w1_1 a i f599).trans (hF_M a i f598 f599))) (fun i g1 => ((w1_1 598 i (nne rfl)).trans (hG_M i g1))) (by omega) (by omega) (by omega) (by omega) (by omega) (by omega) (by omega) (by omega) (by omega) (by omega) ((e5).trans (by omega)) (by omega) hy6 (by rw [w1_0, hy7, ← hy8, hy5]) (by unfold l6x; rw [(show M0 632 (2 * f + 1) = v2 from (by rw [← hy2]; exact (hF_M 632 b (nne rfl) (nne rfl)).symm.trans e2))]; first | (rw [if_pos (by omega)]) | (rw [if_neg (by omega)]))
    · have sx302 : (1 : Int) ≤ v2 := by omega
      clear h302
      refine jr.aload_n rfl rfl ?_
      refine jr.getf (i := 45) (v := .ref 633) rfl rfl (nlt rfl) rfl (nlt rfl) rfl rfl rfl rfl ?_
      refine jr.iload rfl rfl ?_
      obtain ⟨v6, e6⟩ : ∃ z, M 633 b = z := ⟨_, rfl⟩
      have b6 : (-2147483648) ≤ v6 ∧ v6 ≤ 2147483647 := by rw [← e6]; exact (by have q := hI_M 633 b (Nat.le_of_ble_eq_true rfl); rw [xri_row rfl rfl] at q; exact q)
      have e7 : M1 633 b = v6 := ((w1_1 633 b (nne rfl)).trans e6)
      refine jr.iald (i := b) (x := v6) rfl (nlt rfl) rfl (Nat.le_of_ble_eq_true rfl) (by omega) (by omega) e7 ?_
      refine jr.i2l rfl (by omega) ?_
      refine jr.goto rfl rfl ?_
      obtain ⟨v8, e8⟩ : ∃ z, M 598 1 = z := ⟨_, rfl⟩
      have b8 : 0 ≤ v8 ∧ v8 ≤ 1600 := by rw [← e8]; exact hI_M 598 1 (Nat.le_of_ble_eq_true rfl)
      have e9 : M1 598 1 = v8 := ((w1_1 598 1 (nne rfl)).trans e8)
      refine jr.pick (ls := [_, _, _, _, _]) [0, 1, 2, 3, 4] rfl rfl ?_
      exact r_export_L317_x q nO ko M1 b a t f (t + 30) v6 hI_M1 hH_M1 hS_M1  (fun a i f598 f599 => ((w1_1 a i f599).trans (hF_M a i f598 f599))) (fun i g1 => ((w1_1 598 i (nne rfl)).trans (hG_M i g1))) (by omega) (by omega) (by omega) (by omega) (by omega) (by omega) (by omega) (by omega) (by omega) (by omega) ((e9).trans (by omega)) (by omega) hy6 (by rw [w1_0, hy7, ← hy8, hy5]) (by unfold l6x; rw [(show M0 632 (2 * f + 1) = v2 from (by rw [← hy2]; exact (hF_M 632 b (nne rfl) (nne rfl)).symm.trans e2)), (show M0 633 (2 * f + 1) = v6 from (by rw [← hy2]; exact (hF_M 633 b (nne rfl) (nne rfl)).symm.trans e6))]; first | (rw [if_pos (by omega)]) | (rw [if_neg (by omega)]))
theorem r_export_L142_x {A : Nat → Option (Nat × (Nat → Int32))} {Q : Option Value → jm → Prop} {M0 : jm} (q : ∀ (r : Int) (M' : jm), RI M' → RH M' → RF M' → 0 ≤ r ∧ r ≤ 1600 → (M' 599 = (exL (u6x M0) (B6x M0) (M0 599) 24).1 ∧ M' 598 1 = (exL (u6x M0) (B6x M0) (M0 599) 24).2 ∧ r = M' 598 1) → (∀ (a : Nat) (i : Int), a ≠ 598 → a ≠ 599 → M' a i = M0 a i) → (∀ (i : Int), i ≠ 1 → M' 598 i = M0 598 i) → Q (some (.int (Int32.ofInt r))) M') (nO : Nat) (ko : ∀ (M : jm) (f : Int), RI M → RH M → RF M → (∀ (a : Nat) (i : Int), a ≠ 598 → a ≠ 599 → M a i = M0 a i) → (∀ (i : Int), i ≠ 1 → M 598 i = M0 598 i) → 0 ≤ f ∧ f ≤ 24 → 0 ≤ M 598 1 ∧ M 598 1 ≤ 1152 → M 598 1 ≤ 48 * f → (M 599 = (exL (u6x M0) (B6x M0) (M0 599) f.toNat).1 ∧ M 598 1 = (exL (u6x M0) (B6x M0) (M0 599) f.toNat).2) → 24 - f ≤ nO → jr A 2 xm_326 7 [(1, .int (Int32.ofInt (f))), (0, .ref (598))] [] M Q) : ∀ (M : jm) (b : Int) (a : Int) (t : Int) (f : Int), RI M → RH M → RF M → (∀ (a : Nat) (i : Int), a ≠ 598 → a ≠ 599 → M a i = M0 a i) → (∀ (i : Int), i ≠ 1 → M 598 i = M0 598 i) → 0 ≤ b ∧ b ≤ 47 → 0 ≤ a ∧ a ≤ 46 → 0 ≤ t ∧ t ≤ 1104 → 0 ≤ f ∧ f ≤ 23 → 24 - (f + 1) ≤ nO → a = 2 * f → b = 2 * f + 1 → t ≤ 48 * f → M 598 1 = t → M 599 = ly0 (exL (u6x M0) (B6x M0) (M0 599) f.toNat).1 t (M0 629 f) (M0 638 f + flg6 M0 f) → t = (exL (u6x M0) (B6x M0) (M0 599) f.toNat).2 ∧ u6x M0 f ≠ 0 → jr A 2 xm_326 142 [(4, .int (Int32.ofInt (b))), (3, .int (Int32.ofInt (a))), (2, .int (Int32.ofInt (t))), (1, .int (Int32.ofInt (f))), (0, .ref (598))] [] M Q := by
    intro M b a t f hI_M hH_M hS_M hF_M hG_M h_b h_a h_t h_f hy0 hy1 hy2 hy3 hy4 hy5 hy6
    refine jr.aload_n rfl rfl ?_
    refine jr.iload_n rfl rfl ?_
    refine jr.iconst rfl ?_
    refine jr.iadd rfl ?_
    refine jr.aload_n rfl rfl ?_
    refine jr.getf (i := 43) (v := .ref 631) rfl rfl (nlt rfl) rfl (nlt rfl) rfl rfl rfl rfl ?_
    refine jr.iload_n rfl rfl ?_
    obtain ⟨v1, e1⟩ : ∃ z, M 631 a = z := ⟨_, rfl⟩
    have b1 : 0 ≤ v1 ∧ v1 ≤ 65535 := by rw [← e1]; exact (by have q := hI_M 631 a (Nat.le_of_ble_eq_true rfl); rw [xri_row rfl rfl] at q; exact q)
    refine jr.iald (i := a) (x := v1) rfl (nlt rfl) rfl (Nat.le_of_ble_eq_true rfl) (by omega) (by omega) e1 ?_
    refine jr_v rfl rfl (Or.inl rfl) rfl rfl (nlt rfl) rfl ⟨rfl, Nat.le_of_ble_eq_true rfl, Nat.le_of_ble_eq_true rfl⟩ rfl (jc.deep (r_tapeTwo_x hI_M hH_M hS_M  (by omega) (by omega)  (fun M2 hI_M2 hH_M2 hS_M2  w2_0 w2_1 => ?_)) (Nat.le_of_ble_eq_true rfl))
    refine jr.aload_n rfl rfl ?_
    refine jr.iload_n rfl rfl ?_
    refine jr.iconst rfl ?_
    refine jr.iadd rfl ?_
    refine jr.aload_n rfl rfl ?_
    refine jr.getf (i := 43) (v := .ref 631) rfl rfl (nlt rfl) rfl (nlt rfl) rfl rfl rfl rfl ?_
    refine jr.iload rfl rfl ?_
    obtain ⟨v3, e3⟩ : ∃ z, M 631 b = z := ⟨_, rfl⟩
    have b3 : 0 ≤ v3 ∧ v3 ≤ 65535 := by rw [← e3]; exact (by have q := hI_M 631 b (Nat.le_of_ble_eq_true rfl); rw [xri_row rfl rfl] at q; exact q)
    have e4 : M2 631 b = v3 := ((w2_1 631 b (nne rfl)).trans e3)
    refine jr.iald (i := b) (x := v3) rfl (nlt rfl) rfl (Nat.le_of_ble_eq_true rfl) (by omega) (by omega) e4 ?_
    refine jr_v rfl rfl (Or.inl rfl) rfl rfl (nlt rfl) rfl ⟨rfl, Nat.le_of_ble_eq_true rfl, Nat.le_of_ble_eq_true rfl⟩ rfl (jc.deep (r_tapeTwo_x hI_M2 hH_M2 hS_M2  (by omega) (by omega)  (fun M5 hI_M5 hH_M5 hS_M5  w5_0 w5_1 => ?_)) (Nat.le_of_ble_eq_true rfl))
    refine jr.aload_n rfl rfl ?_
    refine jr.iload_n rfl rfl ?_
    refine jr.bipush rfl (jbp _ (nlt rfl)) ?_
    refine jr.iadd rfl ?_
    refine jr.aload_n rfl rfl ?_
    refine jr.getf (i := 47) (v := .ref 635) rfl rfl (nlt rfl) rfl (nlt rfl) rfl rfl rfl rfl ?_
    refine jr.iload_n rfl rfl ?_
    obtain ⟨v6, e6⟩ : ∃ z, M 635 a = z := ⟨_, rfl⟩
    have b6 : 0 ≤ v6 ∧ v6 ≤ 65535 := by rw [← e6]; exact (by have q := hI_M 635 a (Nat.le_of_ble_eq_true rfl); rw [xri_row rfl rfl] at q; exact q)
    have e7 : M2 635 a = v6 := ((w2_1 635 a (nne rfl)).trans e6)
    have e8 : M5 635 a = v6 := ((w5_1 635 a (nne rfl)).trans e7)
    refine jr.iald (i := a) (x := v6) rfl (nlt rfl) rfl (Nat.le_of_ble_eq_true rfl) (by omega) (by omega) e8 ?_
    refine jr_v rfl rfl (Or.inl rfl) rfl rfl (nlt rfl) rfl ⟨rfl, Nat.le_of_ble_eq_true rfl, Nat.le_of_ble_eq_true rfl⟩ rfl (jc.deep (r_tapeTwo_x hI_M5 hH_M5 hS_M5  (by omega) (by omega)  (fun M9 hI_M9 hH_M9 hS_M9  w9_0 w9_1 => ?_)) (Nat.le_of_ble_eq_true rfl))
    refine jr.aload_n rfl rfl ?_
    refine jr.iload_n rfl rfl ?_
    refine jr.bipush rfl (jbp _ (nlt rfl)) ?_
    refine jr.iadd rfl ?_
    refine jr.aload_n rfl rfl ?_
    refine jr.getf (i := 47) (v := .ref 635) rfl rfl (nlt rfl) rfl (nlt rfl) rfl rfl rfl rfl ?_
    refine jr.iload rfl rfl ?_
    obtain ⟨v10, e10⟩ : ∃ z, M 635 b = z := ⟨_, rfl⟩
    have b10 : 0 ≤ v10 ∧ v10 ≤ 65535 := by rw [← e10]; exact (by have q := hI_M 635 b (Nat.le_of_ble_eq_true rfl); rw [xri_row rfl rfl] at q; exact q)
    have e11 : M2 635 b = v10 := ((w2_1 635 b (nne rfl)).trans e10)
    have e12 : M5 635 b = v10 := ((w5_1 635 b (nne rfl)).trans e11)
    have e13 : M9 635 b = v10 := ((w9_1 635 b (nne rfl)).trans e12)
    refine jr.iald (i := b) (x := v10) rfl (nlt rfl) rfl (Nat.le_of_ble_eq_true rfl) (by omega) (by omega) e13 ?_
    refine jr_v rfl rfl (Or.inl rfl) rfl rfl (nlt rfl) rfl ⟨rfl, Nat.le_of_ble_eq_true rfl, Nat.le_of_ble_eq_true rfl⟩ rfl (jc.deep (r_tapeTwo_x hI_M9 hH_M9 hS_M9  (by omega) (by omega)  (fun M14 hI_M14 hH_M14 hS_M14  w14_0 w14_1 => ?_)) (Nat.le_of_ble_eq_true rfl))
    refine jr.aload_n rfl rfl ?_
    refine jr.iload_n rfl rfl ?_
    refine jr.bipush rfl (jbp _ (nlt rfl)) ?_
    refine jr.iadd rfl ?_
    refine jr.aload_n rfl rfl ?_
    refine jr.getf (i := 42) (v := .ref 630) rfl rfl (nlt rfl) rfl (nlt rfl) rfl rfl rfl rfl ?_
    refine jr.iload_n rfl rfl ?_
    obtain ⟨v15, e15⟩ : ∃ z, M 630 a = z := ⟨_, rfl⟩
    have b15 : (-9223372036854775808) ≤ v15 ∧ v15 ≤ 9223372036854775807 := by rw [← e15]; exact (by have q := hI_M 630 a (Nat.le_of_ble_eq_true rfl); rw [xri_row rfl rfl] at q; exact q)
    have e16 : M2 630 a = v15 := ((w2_1 630 a (nne rfl)).trans e15)
    have e17 : M5 630 a = v15 := ((w5_1 630 a (nne rfl)).trans e16)
    have e18 : M9 630 a = v15 := ((w9_1 630 a (nne rfl)).trans e17)
    have e19 : M14 630 a = v15 := ((w14_1 630 a (nne rfl)).trans e18)
    refine jr.lald (i := a) (x := v15) rfl (nlt rfl) rfl (Nat.le_of_ble_eq_true rfl) (by omega) (by omega) e19 ?_
    refine jr.bipush rfl (jbp _ (nlt rfl)) ?_
    refine jr.lshr rfl ?_
    have b20 : jl_shr v15 32 = v15 / 4294967296 := jl_shr_ex 32 (by decide) (by omega) (by omega)
    generalize jl_shr v15 32 = v20 at b20 ⊢
    refine jr_v rfl rfl (Or.inl rfl) rfl rfl (nlt rfl) rfl ⟨rfl, Nat.le_of_ble_eq_true rfl, Nat.le_of_ble_eq_true rfl⟩ rfl (jc.deep (r_tapeFour_x hI_M14 hH_M14 hS_M14  (by omega) (by omega)  (fun M21 hI_M21 hH_M21 hS_M21  w21_0 w21_1 => ?_)) (Nat.le_of_ble_eq_true rfl))
    refine jr.aload_n rfl rfl ?_
    refine jr.iload_n rfl rfl ?_
    refine jr.bipush rfl (jbp _ (nlt rfl)) ?_
    refine jr.iadd rfl ?_
    refine jr.aload_n rfl rfl ?_
    refine jr.getf (i := 42) (v := .ref 630) rfl rfl (nlt rfl) rfl (nlt rfl) rfl rfl rfl rfl ?_
    refine jr.iload_n rfl rfl ?_
    have e22 : M21 630 a = v15 := ((w21_1 630 a (nne rfl)).trans e19)
    refine jr.lald (i := a) (x := v15) rfl (nlt rfl) rfl (Nat.le_of_ble_eq_true rfl) (by omega) (by omega) e22 ?_
    refine jr_v rfl rfl (Or.inl rfl) rfl rfl (nlt rfl) rfl ⟨rfl, Nat.le_of_ble_eq_true rfl, Nat.le_of_ble_eq_true rfl⟩ rfl (jc.deep (r_tapeFour_x hI_M21 hH_M21 hS_M21  (by omega) (by omega)  (fun M23 hI_M23 hH_M23 hS_M23  w23_0 w23_1 => ?_)) (Nat.le_of_ble_eq_true rfl))
    refine jr.aload_n rfl rfl ?_
    refine jr.iload_n rfl rfl ?_
    refine jr.bipush rfl (jbp _ (nlt rfl)) ?_
    refine jr.iadd rfl ?_
    refine jr.aload_n rfl rfl ?_
    refine jr.getf (i := 42) (v := .ref 630) rfl rfl (nlt rfl) rfl (nlt rfl) rfl rfl rfl rfl ?_
    refine jr.iload rfl rfl ?_
    obtain ⟨v24, e24⟩ : ∃ z, M 630 b = z := ⟨_, rfl⟩
    have b24 : (-9223372036854775808) ≤ v24 ∧ v24 ≤ 9223372036854775807 := by rw [← e24]; exact (by have q := hI_M 630 b (Nat.le_of_ble_eq_true rfl); rw [xri_row rfl rfl] at q; exact q)
    have e25 : M2 630 b = v24 := ((w2_1 630 b (nne rfl)).trans e24)
    have e26 : M5 630 b = v24 := ((w5_1 630 b (nne rfl)).trans e25)
    have e27 : M9 630 b = v24 := ((w9_1 630 b (nne rfl)).trans e26)
    have e28 : M14 630 b = v24 := ((w14_1 630 b (nne rfl)).trans e27)
    have e29 : M21 630 b = v24 := ((w21_1 630 b (nne rfl)).trans e28)
    have e30 : M23 630 b = v24 := ((w23_1 630 b (nne rfl)).trans e29)
    refine jr.lald (i := b) (x := v24) rfl (nlt rfl) rfl (Nat.le_of_ble_eq_true rfl) (by omega) (by omega) e30 ?_
    refine jr.bipush rfl (jbp _ (nlt rfl)) ?_
    refine jr.lshr rfl ?_
    have b31 : jl_shr v24 32 = v24 / 4294967296 := jl_shr_ex 32 (by decide) (by omega) (by omega)
    generalize jl_shr v24 32 = v31 at b31 ⊢
    refine jr_v rfl rfl (Or.inl rfl) rfl rfl (nlt rfl) rfl ⟨rfl, Nat.le_of_ble_eq_true rfl, Nat.le_of_ble_eq_true rfl⟩ rfl (jc.deep (r_tapeFour_x hI_M23 hH_M23 hS_M23  (by omega) (by omega)  (fun M32 hI_M32 hH_M32 hS_M32  w32_0 w32_1 => ?_)) (Nat.le_of_ble_eq_true rfl))
    refine jr.aload_n rfl rfl ?_
    refine jr.iload_n rfl rfl ?_
    refine jr.bipush rfl (jbp _ (nlt rfl)) ?_
    refine jr.iadd rfl ?_
    refine jr.aload_n rfl rfl ?_
    refine jr.getf (i := 42) (v := .ref 630) rfl rfl (nlt rfl) rfl (nlt rfl) rfl rfl rfl rfl ?_
    refine jr.iload rfl rfl ?_
    have e33 : M32 630 b = v24 := ((w32_1 630 b (nne rfl)).trans e30)
    refine jr.lald (i := b) (x := v24) rfl (nlt rfl) rfl (Nat.le_of_ble_eq_true rfl) (by omega) (by omega) e33 ?_
    refine jr_v rfl rfl (Or.inl rfl) rfl rfl (nlt rfl) rfl ⟨rfl, Nat.le_of_ble_eq_true rfl, Nat.le_of_ble_eq_true rfl⟩ rfl (jc.deep (r_tapeFour_x hI_M32 hH_M32 hS_M32  (by omega) (by omega)  (fun M34 hI_M34 hH_M34 hS_M34  w34_0 w34_1 => ?_)) (Nat.le_of_ble_eq_true rfl))
    refine jr.aload_n rfl rfl ?_
    refine jr.iload_n rfl rfl ?_
    refine jr.bipush rfl (jbp _ (nlt rfl)) ?_
    refine jr.iadd rfl ?_
    refine jr.aload_n rfl rfl ?_
    refine jr.getf (i := 44) (v := .ref 632) rfl rfl (nlt rfl) rfl (nlt rfl) rfl rfl rfl rfl ?_
    refine jr.iload_n rfl rfl ?_
    obtain ⟨v35, e35⟩ : ∃ z, M 632 a = z := ⟨_, rfl⟩
    have b35 : 0 ≤ v35 ∧ v35 ≤ 1 := by rw [← e35]; exact (by have q := hI_M 632 a (Nat.le_of_ble_eq_true rfl); rw [xri_row rfl rfl] at q; exact q)
    have e36 : M2 632 a = v35 := ((w2_1 632 a (nne rfl)).trans e35)
    have e37 : M5 632 a = v35 := ((w5_1 632 a (nne rfl)).trans e36)
    have e38 : M9 632 a = v35 := ((w9_1 632 a (nne rfl)).trans e37)
    have e39 : M14 632 a = v35 := ((w14_1 632 a (nne rfl)).trans e38)
    have e40 : M21 632 a = v35 := ((w21_1 632 a (nne rfl)).trans e39)
    have e41 : M23 632 a = v35 := ((w23_1 632 a (nne rfl)).trans e40)
    have e42 : M32 632 a = v35 := ((w32_1 632 a (nne rfl)).trans e41)
    have e43 : M34 632 a = v35 := ((w34_1 632 a (nne rfl)).trans e42)
    refine jr.zald (i := a) (x := v35) rfl (nlt rfl) rfl (Nat.le_of_ble_eq_true rfl) (by omega) (by omega) e43 ?_
    refine jr.if_eq rfl rfl (by first | (refine rgb (by assumption) ?_; exact rfl) | omega) (fun h273 => ?_) (fun h273 => ?_)
    · refine jr.lconst (x := 0) rfl (by decide) ?_
      obtain ⟨v44, e44⟩ : ∃ z, M 598 1 = z := ⟨_, rfl⟩
      have b44 : 0 ≤ v44 ∧ v44 ≤ 1600 := by rw [← e44]; exact hI_M 598 1 (Nat.le_of_ble_eq_true rfl)
      have e45 : M2 598 1 = v44 := ((w2_1 598 1 (nne rfl)).trans e44)
      have e46 : M5 598 1 = v44 := ((w5_1 598 1 (nne rfl)).trans e45)
      have e47 : M9 598 1 = v44 := ((w9_1 598 1 (nne rfl)).trans e46)
      have e48 : M14 598 1 = v44 := ((w14_1 598 1 (nne rfl)).trans e47)
      have e49 : M21 598 1 = v44 := ((w21_1 598 1 (nne rfl)).trans e48)
      have e50 : M23 598 1 = v44 := ((w23_1 598 1 (nne rfl)).trans e49)
      have e51 : M32 598 1 = v44 := ((w32_1 598 1 (nne rfl)).trans e50)
      have e52 : M34 598 1 = v44 := ((w34_1 598 1 (nne rfl)).trans e51)
      refine jr.pick (ls := [_, _, _, _, _]) [0, 1, 2, 3, 4] rfl rfl ?_
      exact r_export_L287_x q nO ko M34 b a t f (t + 26) 0 hI_M34 hH_M34 hS_M34  (fun a i f598 f599 => ((w34_1 a i f599).trans ((w32_1 a i f599).trans ((w23_1 a i f599).trans ((w21_1 a i f599).trans ((w14_1 a i f599).trans ((w9_1 a i f599).trans ((w5_1 a i f599).trans ((w2_1 a i f599).trans (hF_M a i f598 f599)))))))))) (fun i g1 => ((w34_1 598 i (nne rfl)).trans ((w32_1 598 i (nne rfl)).trans ((w23_1 598 i (nne rfl)).trans ((w21_1 598 i (nne rfl)).trans ((w14_1 598 i (nne rfl)).trans ((w9_1 598 i (nne rfl)).trans ((w5_1 598 i (nne rfl)).trans ((w2_1 598 i (nne rfl)).trans (hG_M i g1)))))))))) (by omega) (by omega) (by omega) (by omega) (by omega) (by omega) (by omega) (by omega) (by omega) (by omega) ((e52).trans (by omega)) (by omega) hy6 (by unfold ry1; rw [w34_0, w32_0, w23_0, w21_0, w14_0, w9_0, w5_0, w2_0, hy5, (show M0 631 (2 * f) = v1 from (by rw [← hy1]; exact (hF_M 631 a (nne rfl) (nne rfl)).symm.trans e1)), (show M0 631 (2 * f + 1) = v3 from (by rw [← hy2]; exact (hF_M 631 b (nne rfl) (nne rfl)).symm.trans e3)), (show M0 635 (2 * f) = v6 from (by rw [← hy1]; exact (hF_M 635 a (nne rfl) (nne rfl)).symm.trans e6)), (show M0 635 (2 * f + 1) = v10 from (by rw [← hy2]; exact (hF_M 635 b (nne rfl) (nne rfl)).symm.trans e10)), (show M0 630 (2 * f) = v15 from (by rw [← hy1]; exact (hF_M 630 a (nne rfl) (nne rfl)).symm.trans e15)), (show M0 630 (2 * f + 1) = v24 from (by rw [← hy2]; exact (hF_M 630 b (nne rfl) (nne rfl)).symm.trans e24)), b20, b31]) (by unfold l6x; rw [(show M0 632 (2 * f) = v35 from (by rw [← hy1]; exact (hF_M 632 a (nne rfl) (nne rfl)).symm.trans e35))]; first | (rw [if_pos (by omega)]) | (rw [if_neg (by omega)]))
    · have sx273 : (1 : Int) ≤ v35 := by omega
      clear h273
      refine jr.aload_n rfl rfl ?_
      refine jr.getf (i := 45) (v := .ref 633) rfl rfl (nlt rfl) rfl (nlt rfl) rfl rfl rfl rfl ?_
      refine jr.iload_n rfl rfl ?_
      obtain ⟨v53, e53⟩ : ∃ z, M 633 a = z := ⟨_, rfl⟩
      have b53 : (-2147483648) ≤ v53 ∧ v53 ≤ 2147483647 := by rw [← e53]; exact (by have q := hI_M 633 a (Nat.le_of_ble_eq_true rfl); rw [xri_row rfl rfl] at q; exact q)
      have e54 : M2 633 a = v53 := ((w2_1 633 a (nne rfl)).trans e53)
      have e55 : M5 633 a = v53 := ((w5_1 633 a (nne rfl)).trans e54)
      have e56 : M9 633 a = v53 := ((w9_1 633 a (nne rfl)).trans e55)
      have e57 : M14 633 a = v53 := ((w14_1 633 a (nne rfl)).trans e56)
      have e58 : M21 633 a = v53 := ((w21_1 633 a (nne rfl)).trans e57)
      have e59 : M23 633 a = v53 := ((w23_1 633 a (nne rfl)).trans e58)
      have e60 : M32 633 a = v53 := ((w32_1 633 a (nne rfl)).trans e59)
      have e61 : M34 633 a = v53 := ((w34_1 633 a (nne rfl)).trans e60)
      refine jr.iald (i := a) (x := v53) rfl (nlt rfl) rfl (Nat.le_of_ble_eq_true rfl) (by omega) (by omega) e61 ?_
      refine jr.i2l rfl (by omega) ?_
      refine jr.goto rfl rfl ?_
      obtain ⟨v62, e62⟩ : ∃ z, M 598 1 = z := ⟨_, rfl⟩
      have b62 : 0 ≤ v62 ∧ v62 ≤ 1600 := by rw [← e62]; exact hI_M 598 1 (Nat.le_of_ble_eq_true rfl)
      have e63 : M2 598 1 = v62 := ((w2_1 598 1 (nne rfl)).trans e62)
      have e64 : M5 598 1 = v62 := ((w5_1 598 1 (nne rfl)).trans e63)
      have e65 : M9 598 1 = v62 := ((w9_1 598 1 (nne rfl)).trans e64)
      have e66 : M14 598 1 = v62 := ((w14_1 598 1 (nne rfl)).trans e65)
      have e67 : M21 598 1 = v62 := ((w21_1 598 1 (nne rfl)).trans e66)
      have e68 : M23 598 1 = v62 := ((w23_1 598 1 (nne rfl)).trans e67)
      have e69 : M32 598 1 = v62 := ((w32_1 598 1 (nne rfl)).trans e68)
      have e70 : M34 598 1 = v62 := ((w34_1 598 1 (nne rfl)).trans e69)
      refine jr.pick (ls := [_, _, _, _, _]) [0, 1, 2, 3, 4] rfl rfl ?_
      exact r_export_L287_x q nO ko M34 b a t f (t + 26) v53 hI_M34 hH_M34 hS_M34  (fun a i f598 f599 => ((w34_1 a i f599).trans ((w32_1 a i f599).trans ((w23_1 a i f599).trans ((w21_1 a i f599).trans ((w14_1 a i f599).trans ((w9_1 a i f599).trans ((w5_1 a i f599).trans ((w2_1 a i f599).trans (hF_M a i f598 f599)))))))))) (fun i g1 => ((w34_1 598 i (nne rfl)).trans ((w32_1 598 i (nne rfl)).trans ((w23_1 598 i (nne rfl)).trans ((w21_1 598 i (nne rfl)).trans ((w14_1 598 i (nne rfl)).trans ((w9_1 598 i (nne rfl)).trans ((w5_1 598 i (nne rfl)).trans ((w2_1 598 i (nne rfl)).trans (hG_M i g1)))))))))) (by omega) (by omega) (by omega) (by omega) (by omega) (by omega) (by omega) (by omega) (by omega) (by omega) ((e70).trans (by omega)) (by omega) hy6 (by unfold ry1; rw [w34_0, w32_0, w23_0, w21_0, w14_0, w9_0, w5_0, w2_0, hy5, (show M0 631 (2 * f) = v1 from (by rw [← hy1]; exact (hF_M 631 a (nne rfl) (nne rfl)).symm.trans e1)), (show M0 631 (2 * f + 1) = v3 from (by rw [← hy2]; exact (hF_M 631 b (nne rfl) (nne rfl)).symm.trans e3)), (show M0 635 (2 * f) = v6 from (by rw [← hy1]; exact (hF_M 635 a (nne rfl) (nne rfl)).symm.trans e6)), (show M0 635 (2 * f + 1) = v10 from (by rw [← hy2]; exact (hF_M 635 b (nne rfl) (nne rfl)).symm.trans e10)), (show M0 630 (2 * f) = v15 from (by rw [← hy1]; exact (hF_M 630 a (nne rfl) (nne rfl)).symm.trans e15)), (show M0 630 (2 * f + 1) = v24 from (by rw [← hy2]; exact (hF_M 630 b (nne rfl) (nne rfl)).symm.trans e24)), b20, b31]) (by unfold l6x; rw [(show M0 632 (2 * f) = v35 from (by rw [← hy1]; exact (hF_M 632 a (nne rfl) (nne rfl)).symm.trans e35)), (show M0 633 (2 * f) = v53 from (by rw [← hy1]; exact (hF_M 633 a (nne rfl) (nne rfl)).symm.trans e53))]; first | (rw [if_pos (by omega)]) | (rw [if_neg (by omega)]))
theorem r_export_L7_x {A : Nat → Option (Nat × (Nat → Int32))} {Q : Option Value → jm → Prop} {M0 : jm} (q : ∀ (r : Int) (M' : jm), RI M' → RH M' → RF M' → 0 ≤ r ∧ r ≤ 1600 → (M' 599 = (exL (u6x M0) (B6x M0) (M0 599) 24).1 ∧ M' 598 1 = (exL (u6x M0) (B6x M0) (M0 599) 24).2 ∧ r = M' 598 1) → (∀ (a : Nat) (i : Int), a ≠ 598 → a ≠ 599 → M' a i = M0 a i) → (∀ (i : Int), i ≠ 1 → M' 598 i = M0 598 i) → Q (some (.int (Int32.ofInt r))) M') : ∀ (nM : Nat) (M : jm) (f : Int), RI M → RH M → RF M → (∀ (a : Nat) (i : Int), a ≠ 598 → a ≠ 599 → M a i = M0 a i) → (∀ (i : Int), i ≠ 1 → M 598 i = M0 598 i) → 0 ≤ f ∧ f ≤ 24 → 0 ≤ M 598 1 ∧ M 598 1 ≤ 1152 → M 598 1 ≤ 48 * f → (M 599 = (exL (u6x M0) (B6x M0) (M0 599) f.toNat).1 ∧ M 598 1 = (exL (u6x M0) (B6x M0) (M0 599) f.toNat).2) → 24 - f ≤ nM → jr A 2 xm_326 7 [(1, .int (Int32.ofInt (f))), (0, .ref (598))] [] M Q := by
  intro nM
  induction nM using Nat.strongRecOn with
  | ind nM ih =>
    intro M f hI_M hH_M hS_M hF_M hG_M h_f hy0 hy1 hy2 hm
    refine jr.iload_n rfl rfl ?_
    refine jr.bipush rfl (jbp _ (nlt rfl)) ?_
    refine jr.icmp_ge rfl rfl (by first | (refine rgb (by assumption) ?_; exact rfl) | omega) (rgl rfl) (fun h10 => ?_) (fun h10 => ?_)
    · refine jr.aload_n rfl rfl ?_
      obtain ⟨v1, e1⟩ : ∃ z, M 598 1 = z := ⟨_, rfl⟩
      have b1 : 0 ≤ v1 ∧ v1 ≤ 1600 := by rw [← e1]; exact hI_M 598 1 (Nat.le_of_ble_eq_true rfl)
      refine jr.getf (i := 1) (x := v1) (v := .int (Int32.ofInt (v1))) rfl rfl (nlt rfl) rfl (nlt rfl) rfl rfl e1 rfl ?_
      exact jr.ireturn rfl rfl rfl (q _ _ hI_M hH_M hS_M  (by omega) (by have h9 := hy2; rw [show f = 24 from by omega] at h9; exact ⟨h9.1, h9.2, by rw [e1]⟩) (fun a i f598 f599 => (hF_M a i f598 f599)) (fun i g1 => (hG_M i g1)))
    · refine jr.aload_n rfl rfl ?_
      refine jr.getf (i := 39) (v := .ref 627) rfl rfl (nlt rfl) rfl (nlt rfl) rfl rfl rfl rfl ?_
      refine jr.iload_n rfl rfl ?_
      obtain ⟨v2, e2⟩ : ∃ z, M 627 f = z := ⟨_, rfl⟩
      have b2 : 0 ≤ v2 ∧ v2 ≤ 1 := by rw [← e2]; exact (by have q := hI_M 627 f (Nat.le_of_ble_eq_true rfl); rw [xri_row rfl rfl] at q; exact q)
      refine jr.zald (i := f) (x := v2) rfl (nlt rfl) rfl (Nat.le_of_ble_eq_true rfl) (by omega) (by omega) e2 ?_
      refine jr.if_eq rfl rfl (by first | (refine rgb (by assumption) ?_; exact rfl) | omega) (fun h19 => ?_) (fun h19 => ?_)
      · refine jr.iinc (ls' := [_, _]) rfl rfl (nlt rfl) rfl ?_
        refine jr.goto rfl rfl ?_
        obtain ⟨v3, e3⟩ : ∃ z, M 598 1 = z := ⟨_, rfl⟩
        have b3 : 0 ≤ v3 ∧ v3 ≤ 1600 := by rw [← e3]; exact hI_M 598 1 (Nat.le_of_ble_eq_true rfl)
        refine jr.pick (ls := [_, _]) [0, 1] rfl rfl ?_
        exact ih (nM - 1) (by omega) M (f + 1) hI_M hH_M hS_M  (fun a i f598 f599 => (hF_M a i f598 f599)) (fun i g1 => (hG_M i g1)) (by omega) (by omega) (by rw [e3]; omega) (by rw [exL_s (by omega), if_pos (u6_0 (fun u => by rw [(show M0 627 f = v2 from (hF_M 627 f (nne rfl) (nne rfl)).symm.trans e2)] at u; omega))]; exact hy2) (by omega)
      · have sx19 : (1 : Int) ≤ v2 := by omega
        clear h19
        refine jr.aload_n rfl rfl ?_
        refine jr.getf (i := 52) (v := .ref 640) rfl rfl (nlt rfl) rfl (nlt rfl) rfl rfl rfl rfl ?_
        refine jr.iload_n rfl rfl ?_
        obtain ⟨v4, e4⟩ : ∃ z, M 640 f = z := ⟨_, rfl⟩
        have b4 : (-1) ≤ v4 ∧ v4 ≤ 3 := by rw [← e4]; exact (by have q := hI_M 640 f (Nat.le_of_ble_eq_true rfl); rw [xri_row rfl rfl] at q; exact q)
        refine jr.iald (i := f) (x := v4) rfl (nlt rfl) rfl (Nat.le_of_ble_eq_true rfl) (by omega) (by omega) e4 ?_
        refine jr.iconst rfl ?_
        refine jr.icmp_eq rfl rfl (by first | (refine rgb (by assumption) ?_; exact rfl) | omega) (rgl rfl) (fun h29 => ?_) (fun h29 => ?_)
        · refine jr.aload_n rfl rfl ?_
          obtain ⟨v5, e5⟩ : ∃ z, M 598 1 = z := ⟨_, rfl⟩
          have b5 : 0 ≤ v5 ∧ v5 ≤ 1600 := by rw [← e5]; exact hI_M 598 1 (Nat.le_of_ble_eq_true rfl)
          refine jr.getf (i := 1) (x := v5) (v := .int (Int32.ofInt (v5))) rfl rfl (nlt rfl) rfl (nlt rfl) rfl rfl e5 rfl ?_
          refine jr.istore_n (ls' := [_, _, _]) rfl (nlt rfl) rfl ?_
          refine jr.iconst rfl ?_
          refine jr.iload_n rfl rfl ?_
          refine jr.imul rfl ?_
          refine jr.istore_n (ls' := [_, _, _, _]) rfl (nlt rfl) rfl ?_
          refine jr.iload_n rfl rfl ?_
          refine jr.iconst rfl ?_
          refine jr.iadd rfl ?_
          refine jr.istore (ls' := [_, _, _, _, _]) rfl (nlt rfl) rfl ?_
          refine jr.aload_n rfl rfl ?_
          refine jr.getf (i := 0) (v := .ref 599) rfl rfl (nlt rfl) rfl (nlt rfl) rfl rfl rfl rfl ?_
          refine jr.iload_n rfl rfl ?_
          refine jr.aload_n rfl rfl ?_
          refine jr.getf (i := 41) (v := .ref 629) rfl rfl (nlt rfl) rfl (nlt rfl) rfl rfl rfl rfl ?_
          refine jr.iload_n rfl rfl ?_
          obtain ⟨v6, e6⟩ : ∃ z, M 629 f = z := ⟨_, rfl⟩
          have b6 : 0 ≤ v6 ∧ v6 ≤ 255 := by rw [← e6]; exact (by have q := hI_M 629 f (Nat.le_of_ble_eq_true rfl); rw [xri_row rfl rfl] at q; exact q)
          refine jr.iald (i := f) (x := v6) rfl (nlt rfl) rfl (Nat.le_of_ble_eq_true rfl) (by omega) (by omega) e6 ?_
          refine jr.iast (i := v5) (x := v6) rfl (nlt rfl) rfl (Nat.le_of_ble_eq_true rfl) (by omega) (by omega) ?_
          refine jr.aload_n rfl rfl ?_
          refine jr.getf (i := 0) (v := .ref 599) rfl rfl (nlt rfl) rfl (nlt rfl) rfl rfl rfl rfl ?_
          refine jr.iload_n rfl rfl ?_
          refine jr.iconst rfl ?_
          refine jr.iadd rfl ?_
          refine jr.aload_n rfl rfl ?_
          refine jr.getf (i := 50) (v := .ref 638) rfl rfl (nlt rfl) rfl (nlt rfl) rfl rfl rfl rfl ?_
          refine jr.iload_n rfl rfl ?_
          obtain ⟨v7, e7⟩ : ∃ z, M 638 f = z := ⟨_, rfl⟩
          have b7 : 0 ≤ v7 ∧ v7 ≤ 15 := by rw [← e7]; exact (by have q := hI_M 638 f (Nat.le_of_ble_eq_true rfl); rw [xri_row rfl rfl] at q; exact q)
          refine jr.iald (i := f) (x := v7) rfl (nlt rfl) rfl (Nat.le_of_ble_eq_true rfl) (by omega) (by omega) ((ju_c _ _ (by decide)).trans e7) ?_
          refine jr.aload_n rfl rfl ?_
          refine jr.getf (i := 40) (v := .ref 628) rfl rfl (nlt rfl) rfl (nlt rfl) rfl rfl rfl rfl ?_
          refine jr.iload_n rfl rfl ?_
          obtain ⟨v8, e8⟩ : ∃ z, M 628 f = z := ⟨_, rfl⟩
          have b8 : 0 ≤ v8 ∧ v8 ≤ 1 := by rw [← e8]; exact (by have q := hI_M 628 f (Nat.le_of_ble_eq_true rfl); rw [xri_row rfl rfl] at q; exact q)
          refine jr.zald (i := f) (x := v8) rfl (nlt rfl) rfl (Nat.le_of_ble_eq_true rfl) (by omega) (by omega) ((ju_c _ _ (by decide)).trans e8) ?_
          refine jr.if_eq rfl rfl (by first | (refine rgb (by assumption) ?_; exact rfl) | omega) (fun h80 => ?_) (fun h80 => ?_)
          · refine jr.iconst rfl ?_
            refine jr.ior rfl ?_
            have b9 : j_or v7 0 = v7 + 0 ∧ 0 ≤ j_or v7 0 ∧ j_or v7 0 ≤ 31 := ⟨j_or_a 4 (by decide) (by omega) (by omega), by rw [j_or_a 4 (by decide) (by omega) (by omega)]; omega⟩
            generalize j_or v7 0 = v9 at b9 ⊢
            refine jr.aload_n rfl rfl ?_
            refine jr.getf (i := 44) (v := .ref 632) rfl rfl (nlt rfl) rfl (nlt rfl) rfl rfl rfl rfl ?_
            refine jr.iload_n rfl rfl ?_
            obtain ⟨v10, e10⟩ : ∃ z, M 632 (2 * f) = z := ⟨_, rfl⟩
            have b10 : 0 ≤ v10 ∧ v10 ≤ 1 := by rw [← e10]; exact (by have q := hI_M 632 (2 * f) (Nat.le_of_ble_eq_true rfl); rw [xri_row rfl rfl] at q; exact q)
            refine jr.zald (i := (2 * f)) (x := v10) rfl (nlt rfl) rfl (Nat.le_of_ble_eq_true rfl) (by omega) (by omega) ((ju_c _ _ (by decide)).trans e10) ?_
            refine jr.if_eq rfl rfl (by first | (refine rgb (by assumption) ?_; exact rfl) | omega) (fun h96 => ?_) (fun h96 => ?_)
            · refine jr.iconst rfl ?_
              refine jr.ior rfl ?_
              have b11 : j_or v9 0 = v9 + 0 ∧ 0 ≤ j_or v9 0 ∧ j_or v9 0 ≤ 63 := ⟨j_or_a 5 (by decide) (by omega) (by omega), by rw [j_or_a 5 (by decide) (by omega) (by omega)]; omega⟩
              generalize j_or v9 0 = v11 at b11 ⊢
              refine jr.aload_n rfl rfl ?_
              refine jr.getf (i := 44) (v := .ref 632) rfl rfl (nlt rfl) rfl (nlt rfl) rfl rfl rfl rfl ?_
              refine jr.iload rfl rfl ?_
              obtain ⟨v12, e12⟩ : ∃ z, M 632 ((2 * f) + 1) = z := ⟨_, rfl⟩
              have b12 : 0 ≤ v12 ∧ v12 ≤ 1 := by rw [← e12]; exact (by have q := hI_M 632 ((2 * f) + 1) (by decide); rw [xri_row rfl rfl] at q; exact q)
              refine jr.zald (i := ((2 * f) + 1)) (x := v12) rfl (nlt rfl) rfl (Nat.le_of_ble_eq_true rfl) (by omega) (by omega) ((ju_c _ _ (by decide)).trans e12) ?_
              refine jr.if_eq rfl rfl (by first | (refine rgb (by assumption) ?_; exact rfl) | omega) (fun h113 => ?_) (fun h113 => ?_)
              · refine jr.iconst rfl ?_
                refine jr.ior rfl ?_
                have b13 : j_or v11 0 = v11 + 0 ∧ 0 ≤ j_or v11 0 ∧ j_or v11 0 ≤ 127 := ⟨j_or_a 6 (by decide) (by omega) (by omega), by rw [j_or_a 6 (by decide) (by omega) (by omega)]; omega⟩
                generalize j_or v11 0 = v13 at b13 ⊢
                refine jr.aload_n rfl rfl ?_
                refine jr.getf (i := 46) (v := .ref 634) rfl rfl (nlt rfl) rfl (nlt rfl) rfl rfl rfl rfl ?_
                refine jr.iload rfl rfl ?_
                obtain ⟨v14, e14⟩ : ∃ z, M 634 ((2 * f) + 1) = z := ⟨_, rfl⟩
                have b14 : 0 ≤ v14 ∧ v14 ≤ 1 := by rw [← e14]; exact (by have q := hI_M 634 ((2 * f) + 1) (by decide); rw [xri_row rfl rfl] at q; exact q)
                refine jr.zald (i := ((2 * f) + 1)) (x := v14) rfl (nlt rfl) rfl (Nat.le_of_ble_eq_true rfl) (by omega) (by omega) ((ju_c _ _ (by decide)).trans e14) ?_
                refine jr.if_eq rfl rfl (by first | (refine rgb (by assumption) ?_; exact rfl) | omega) (fun h130 => ?_) (fun h130 => ?_)
                · refine jr.iconst rfl ?_
                  refine jr.ior rfl ?_
                  have b15 : j_or v13 0 = v13 + 0 ∧ 0 ≤ j_or v13 0 ∧ j_or v13 0 ≤ 255 := ⟨j_or_a 7 (by decide) (by omega) (by omega), by rw [j_or_a 7 (by decide) (by omega) (by omega)]; omega⟩
                  generalize j_or v13 0 = v15 at b15 ⊢
                  refine jr.iast (i := (v5 + 1)) (x := v15) rfl (nlt rfl) rfl (Nat.le_of_ble_eq_true rfl) (by omega) (by omega) ?_
                  refine jr.pick (ls := [_, _, _, _, _]) [0, 1, 2, 3, 4] rfl rfl ?_
                  exact r_export_L142_x q (nM - 1) (ih (nM - 1) (by omega)) (ju (ju M 599 v5 v6) 599 (v5 + 1) v15) ((2 * f) + 1) (2 * f) v5 f (RI.u (RI.u hI_M (a := 599) (i := v5) (by rw [xri_row rfl rfl]; show (0 : Int) ≤ _ ∧ _ ≤ (255 : Int); omega)) (a := 599) (i := (v5 + 1)) (by rw [xri_row rfl rfl]; show (0 : Int) ≤ _ ∧ _ ≤ (255 : Int); omega)) (RH.o (RH.o hH_M (by decide) (by decide) (by decide)) (by decide) (by decide) (by decide)) (RF.o (RF.o hS_M (by decide) (by decide)) (by decide) (by decide))  (fun a i f598 f599 => ((ju_c _ _ f599).trans ((ju_c _ _ f599).trans (hF_M a i f598 f599)))) (fun i g1 => ((ju_c _ _ (by decide)).trans ((ju_c _ _ (by decide)).trans (hG_M i g1)))) (by omega) (by omega) (by omega) (by omega) (by omega) (by omega) (by omega) (by omega) ((((ju_c _ _ (by decide)).trans ((ju_c _ _ (by decide)).trans e5))).trans (by omega)) (by have hs : M0 638 f + flg6 M0 f = v15 := (by unfold flg6; rw [(show M0 638 (f) = v7 from (hF_M 638 (f) (nne rfl) (nne rfl)).symm.trans e7), (show M0 628 (f) = v8 from (hF_M 628 (f) (nne rfl) (nne rfl)).symm.trans e8), (show M0 632 (2 * f) = v10 from (hF_M 632 (2 * f) (nne rfl) (nne rfl)).symm.trans e10), (show M0 632 ((2 * f) + 1) = v12 from (hF_M 632 ((2 * f) + 1) (by decide) (by decide)).symm.trans e12), (show M0 634 ((2 * f) + 1) = v14 from (hF_M 634 ((2 * f) + 1) (by decide) (by decide)).symm.trans e14)]; (repeat' split) <;> omega); rw [hs, (show M0 629 f = v6 from (hF_M 629 f (nne rfl) (nne rfl)).symm.trans e6), jp1 (by omega), jp1 (by omega), hy2.1]; rfl) ⟨by rw [← hy2.2]; exact e5.symm, by rw [u6_1 ⟨by rw [(show M0 627 f = v2 from (hF_M 627 f (nne rfl) (nne rfl)).symm.trans e2)]; omega, by rw [(show M0 640 f = v4 from (hF_M 640 f (nne rfl) (nne rfl)).symm.trans e4)]; omega⟩]; decide⟩
                · have sx130 : (1 : Int) ≤ v14 := by omega
                  clear h130
                  refine jr.sipush rfl (by decide) ?_
                  refine jr.goto rfl rfl ?_
                  refine jr.ior rfl ?_
                  have b16 : j_or v13 128 = v13 + 128 ∧ 0 ≤ j_or v13 128 ∧ j_or v13 128 ≤ 255 := ⟨j_or_a 7 (by decide) (by omega) (by omega), by rw [j_or_a 7 (by decide) (by omega) (by omega)]; omega⟩
                  generalize j_or v13 128 = v16 at b16 ⊢
                  refine jr.iast (i := (v5 + 1)) (x := v16) rfl (nlt rfl) rfl (Nat.le_of_ble_eq_true rfl) (by omega) (by omega) ?_
                  refine jr.pick (ls := [_, _, _, _, _]) [0, 1, 2, 3, 4] rfl rfl ?_
                  exact r_export_L142_x q (nM - 1) (ih (nM - 1) (by omega)) (ju (ju M 599 v5 v6) 599 (v5 + 1) v16) ((2 * f) + 1) (2 * f) v5 f (RI.u (RI.u hI_M (a := 599) (i := v5) (by rw [xri_row rfl rfl]; show (0 : Int) ≤ _ ∧ _ ≤ (255 : Int); omega)) (a := 599) (i := (v5 + 1)) (by rw [xri_row rfl rfl]; show (0 : Int) ≤ _ ∧ _ ≤ (255 : Int); omega)) (RH.o (RH.o hH_M (by decide) (by decide) (by decide)) (by decide) (by decide) (by decide)) (RF.o (RF.o hS_M (by decide) (by decide)) (by decide) (by decide))  (fun a i f598 f599 => ((ju_c _ _ f599).trans ((ju_c _ _ f599).trans (hF_M a i f598 f599)))) (fun i g1 => ((ju_c _ _ (by decide)).trans ((ju_c _ _ (by decide)).trans (hG_M i g1)))) (by omega) (by omega) (by omega) (by omega) (by omega) (by omega) (by omega) (by omega) ((((ju_c _ _ (by decide)).trans ((ju_c _ _ (by decide)).trans e5))).trans (by omega)) (by have hs : M0 638 f + flg6 M0 f = v16 := (by unfold flg6; rw [(show M0 638 (f) = v7 from (hF_M 638 (f) (nne rfl) (nne rfl)).symm.trans e7), (show M0 628 (f) = v8 from (hF_M 628 (f) (nne rfl) (nne rfl)).symm.trans e8), (show M0 632 (2 * f) = v10 from (hF_M 632 (2 * f) (nne rfl) (nne rfl)).symm.trans e10), (show M0 632 ((2 * f) + 1) = v12 from (hF_M 632 ((2 * f) + 1) (by decide) (by decide)).symm.trans e12), (show M0 634 ((2 * f) + 1) = v14 from (hF_M 634 ((2 * f) + 1) (by decide) (by decide)).symm.trans e14)]; (repeat' split) <;> omega); rw [hs, (show M0 629 f = v6 from (hF_M 629 f (nne rfl) (nne rfl)).symm.trans e6), jp1 (by omega), jp1 (by omega), hy2.1]; rfl) ⟨by rw [← hy2.2]; exact e5.symm, by rw [u6_1 ⟨by rw [(show M0 627 f = v2 from (hF_M 627 f (nne rfl) (nne rfl)).symm.trans e2)]; omega, by rw [(show M0 640 f = v4 from (hF_M 640 f (nne rfl) (nne rfl)).symm.trans e4)]; omega⟩]; decide⟩
              · have sx113 : (1 : Int) ≤ v12 := by omega
                clear h113
                refine jr.bipush rfl (jbp _ (nlt rfl)) ?_
                refine jr.goto rfl rfl ?_
                refine jr.ior rfl ?_
                have b17 : j_or v11 64 = v11 + 64 ∧ 0 ≤ j_or v11 64 ∧ j_or v11 64 ≤ 127 := ⟨j_or_a 6 (by decide) (by omega) (by omega), by rw [j_or_a 6 (by decide) (by omega) (by omega)]; omega⟩
                generalize j_or v11 64 = v17 at b17 ⊢
                refine jr.aload_n rfl rfl ?_
                refine jr.getf (i := 46) (v := .ref 634) rfl rfl (nlt rfl) rfl (nlt rfl) rfl rfl rfl rfl ?_
                refine jr.iload rfl rfl ?_
                obtain ⟨v18, e18⟩ : ∃ z, M 634 ((2 * f) + 1) = z := ⟨_, rfl⟩
                have b18 : 0 ≤ v18 ∧ v18 ≤ 1 := by rw [← e18]; exact (by have q := hI_M 634 ((2 * f) + 1) (by decide); rw [xri_row rfl rfl] at q; exact q)
                refine jr.zald (i := ((2 * f) + 1)) (x := v18) rfl (nlt rfl) rfl (Nat.le_of_ble_eq_true rfl) (by omega) (by omega) ((ju_c _ _ (by decide)).trans e18) ?_
                refine jr.if_eq rfl rfl (by first | (refine rgb (by assumption) ?_; exact rfl) | omega) (fun h130 => ?_) (fun h130 => ?_)
                · refine jr.iconst rfl ?_
                  refine jr.ior rfl ?_
                  have b19 : j_or v17 0 = v17 + 0 ∧ 0 ≤ j_or v17 0 ∧ j_or v17 0 ≤ 255 := ⟨j_or_a 7 (by decide) (by omega) (by omega), by rw [j_or_a 7 (by decide) (by omega) (by omega)]; omega⟩
                  generalize j_or v17 0 = v19 at b19 ⊢
                  refine jr.iast (i := (v5 + 1)) (x := v19) rfl (nlt rfl) rfl (Nat.le_of_ble_eq_true rfl) (by omega) (by omega) ?_
                  refine jr.pick (ls := [_, _, _, _, _]) [0, 1, 2, 3, 4] rfl rfl ?_
                  exact r_export_L142_x q (nM - 1) (ih (nM - 1) (by omega)) (ju (ju M 599 v5 v6) 599 (v5 + 1) v19) ((2 * f) + 1) (2 * f) v5 f (RI.u (RI.u hI_M (a := 599) (i := v5) (by rw [xri_row rfl rfl]; show (0 : Int) ≤ _ ∧ _ ≤ (255 : Int); omega)) (a := 599) (i := (v5 + 1)) (by rw [xri_row rfl rfl]; show (0 : Int) ≤ _ ∧ _ ≤ (255 : Int); omega)) (RH.o (RH.o hH_M (by decide) (by decide) (by decide)) (by decide) (by decide) (by decide)) (RF.o (RF.o hS_M (by decide) (by decide)) (by decide) (by decide))  (fun a i f598 f599 => ((ju_c _ _ f599).trans ((ju_c _ _ f599).trans (hF_M a i f598 f599)))) (fun i g1 => ((ju_c _ _ (by decide)).trans ((ju_c _ _ (by decide)).trans (hG_M i g1)))) (by omega) (by omega) (by omega) (by omega) (by omega) (by omega) (by omega) (by omega) ((((ju_c _ _ (by decide)).trans ((ju_c _ _ (by decide)).trans e5))).trans (by omega)) (by have hs : M0 638 f + flg6 M0 f = v19 := (by unfold flg6; rw [(show M0 638 (f) = v7 from (hF_M 638 (f) (nne rfl) (nne rfl)).symm.trans e7), (show M0 628 (f) = v8 from (hF_M 628 (f) (nne rfl) (nne rfl)).symm.trans e8), (show M0 632 (2 * f) = v10 from (hF_M 632 (2 * f) (nne rfl) (nne rfl)).symm.trans e10), (show M0 632 ((2 * f) + 1) = v12 from (hF_M 632 ((2 * f) + 1) (by decide) (by decide)).symm.trans e12), (show M0 634 ((2 * f) + 1) = v18 from (hF_M 634 ((2 * f) + 1) (by decide) (by decide)).symm.trans e18)]; (repeat' split) <;> omega); rw [hs, (show M0 629 f = v6 from (hF_M 629 f (nne rfl) (nne rfl)).symm.trans e6), jp1 (by omega), jp1 (by omega), hy2.1]; rfl) ⟨by rw [← hy2.2]; exact e5.symm, by rw [u6_1 ⟨by rw [(show M0 627 f = v2 from (hF_M 627 f (nne rfl) (nne rfl)).symm.trans e2)]; omega, by rw [(show M0 640 f = v4 from (hF_M 640 f (nne rfl) (nne rfl)).symm.trans e4)]; omega⟩]; decide⟩
                · have sx130 : (1 : Int) ≤ v18 := by omega
                  clear h130
                  refine jr.sipush rfl (by decide) ?_
                  refine jr.goto rfl rfl ?_
                  refine jr.ior rfl ?_
                  have b20 : j_or v17 128 = v17 + 128 ∧ 0 ≤ j_or v17 128 ∧ j_or v17 128 ≤ 255 := ⟨j_or_a 7 (by decide) (by omega) (by omega), by rw [j_or_a 7 (by decide) (by omega) (by omega)]; omega⟩
                  generalize j_or v17 128 = v20 at b20 ⊢
                  refine jr.iast (i := (v5 + 1)) (x := v20) rfl (nlt rfl) rfl (Nat.le_of_ble_eq_true rfl) (by omega) (by omega) ?_
                  refine jr.pick (ls := [_, _, _, _, _]) [0, 1, 2, 3, 4] rfl rfl ?_
                  exact r_export_L142_x q (nM - 1) (ih (nM - 1) (by omega)) (ju (ju M 599 v5 v6) 599 (v5 + 1) v20) ((2 * f) + 1) (2 * f) v5 f (RI.u (RI.u hI_M (a := 599) (i := v5) (by rw [xri_row rfl rfl]; show (0 : Int) ≤ _ ∧ _ ≤ (255 : Int); omega)) (a := 599) (i := (v5 + 1)) (by rw [xri_row rfl rfl]; show (0 : Int) ≤ _ ∧ _ ≤ (255 : Int); omega)) (RH.o (RH.o hH_M (by decide) (by decide) (by decide)) (by decide) (by decide) (by decide)) (RF.o (RF.o hS_M (by decide) (by decide)) (by decide) (by decide))  (fun a i f598 f599 => ((ju_c _ _ f599).trans ((ju_c _ _ f599).trans (hF_M a i f598 f599)))) (fun i g1 => ((ju_c _ _ (by decide)).trans ((ju_c _ _ (by decide)).trans (hG_M i g1)))) (by omega) (by omega) (by omega) (by omega) (by omega) (by omega) (by omega) (by omega) ((((ju_c _ _ (by decide)).trans ((ju_c _ _ (by decide)).trans e5))).trans (by omega)) (by have hs : M0 638 f + flg6 M0 f = v20 := (by unfold flg6; rw [(show M0 638 (f) = v7 from (hF_M 638 (f) (nne rfl) (nne rfl)).symm.trans e7), (show M0 628 (f) = v8 from (hF_M 628 (f) (nne rfl) (nne rfl)).symm.trans e8), (show M0 632 (2 * f) = v10 from (hF_M 632 (2 * f) (nne rfl) (nne rfl)).symm.trans e10), (show M0 632 ((2 * f) + 1) = v12 from (hF_M 632 ((2 * f) + 1) (by decide) (by decide)).symm.trans e12), (show M0 634 ((2 * f) + 1) = v18 from (hF_M 634 ((2 * f) + 1) (by decide) (by decide)).symm.trans e18)]; (repeat' split) <;> omega); rw [hs, (show M0 629 f = v6 from (hF_M 629 f (nne rfl) (nne rfl)).symm.trans e6), jp1 (by omega), jp1 (by omega), hy2.1]; rfl) ⟨by rw [← hy2.2]; exact e5.symm, by rw [u6_1 ⟨by rw [(show M0 627 f = v2 from (hF_M 627 f (nne rfl) (nne rfl)).symm.trans e2)]; omega, by rw [(show M0 640 f = v4 from (hF_M 640 f (nne rfl) (nne rfl)).symm.trans e4)]; omega⟩]; decide⟩
            · have sx96 : (1 : Int) ≤ v10 := by omega
              clear h96
              refine jr.bipush rfl (jbp _ (nlt rfl)) ?_
              refine jr.goto rfl rfl ?_
              refine jr.ior rfl ?_
              have b21 : j_or v9 32 = v9 + 32 ∧ 0 ≤ j_or v9 32 ∧ j_or v9 32 ≤ 63 := ⟨j_or_a 5 (by decide) (by omega) (by omega), by rw [j_or_a 5 (by decide) (by omega) (by omega)]; omega⟩
              generalize j_or v9 32 = v21 at b21 ⊢
              refine jr.aload_n rfl rfl ?_
              refine jr.getf (i := 44) (v := .ref 632) rfl rfl (nlt rfl) rfl (nlt rfl) rfl rfl rfl rfl ?_
              refine jr.iload rfl rfl ?_
              obtain ⟨v22, e22⟩ : ∃ z, M 632 ((2 * f) + 1) = z := ⟨_, rfl⟩
              have b22 : 0 ≤ v22 ∧ v22 ≤ 1 := by rw [← e22]; exact (by have q := hI_M 632 ((2 * f) + 1) (by decide); rw [xri_row rfl rfl] at q; exact q)
              refine jr.zald (i := ((2 * f) + 1)) (x := v22) rfl (nlt rfl) rfl (Nat.le_of_ble_eq_true rfl) (by omega) (by omega) ((ju_c _ _ (by decide)).trans e22) ?_
              refine jr.if_eq rfl rfl (by first | (refine rgb (by assumption) ?_; exact rfl) | omega) (fun h113 => ?_) (fun h113 => ?_)
              · refine jr.iconst rfl ?_
                refine jr.ior rfl ?_
                have b23 : j_or v21 0 = v21 + 0 ∧ 0 ≤ j_or v21 0 ∧ j_or v21 0 ≤ 127 := ⟨j_or_a 6 (by decide) (by omega) (by omega), by rw [j_or_a 6 (by decide) (by omega) (by omega)]; omega⟩
                generalize j_or v21 0 = v23 at b23 ⊢
                refine jr.aload_n rfl rfl ?_
                refine jr.getf (i := 46) (v := .ref 634) rfl rfl (nlt rfl) rfl (nlt rfl) rfl rfl rfl rfl ?_
                refine jr.iload rfl rfl ?_
                obtain ⟨v24, e24⟩ : ∃ z, M 634 ((2 * f) + 1) = z := ⟨_, rfl⟩
                have b24 : 0 ≤ v24 ∧ v24 ≤ 1 := by rw [← e24]; exact (by have q := hI_M 634 ((2 * f) + 1) (by decide); rw [xri_row rfl rfl] at q; exact q)
                refine jr.zald (i := ((2 * f) + 1)) (x := v24) rfl (nlt rfl) rfl (Nat.le_of_ble_eq_true rfl) (by omega) (by omega) ((ju_c _ _ (by decide)).trans e24) ?_
                refine jr.if_eq rfl rfl (by first | (refine rgb (by assumption) ?_; exact rfl) | omega) (fun h130 => ?_) (fun h130 => ?_)
                · refine jr.iconst rfl ?_
                  refine jr.ior rfl ?_
                  have b25 : j_or v23 0 = v23 + 0 ∧ 0 ≤ j_or v23 0 ∧ j_or v23 0 ≤ 255 := ⟨j_or_a 7 (by decide) (by omega) (by omega), by rw [j_or_a 7 (by decide) (by omega) (by omega)]; omega⟩
                  generalize j_or v23 0 = v25 at b25 ⊢
                  refine jr.iast (i := (v5 + 1)) (x := v25) rfl (nlt rfl) rfl (Nat.le_of_ble_eq_true rfl) (by omega) (by omega) ?_
                  refine jr.pick (ls := [_, _, _, _, _]) [0, 1, 2, 3, 4] rfl rfl ?_
                  exact r_export_L142_x q (nM - 1) (ih (nM - 1) (by omega)) (ju (ju M 599 v5 v6) 599 (v5 + 1) v25) ((2 * f) + 1) (2 * f) v5 f (RI.u (RI.u hI_M (a := 599) (i := v5) (by rw [xri_row rfl rfl]; show (0 : Int) ≤ _ ∧ _ ≤ (255 : Int); omega)) (a := 599) (i := (v5 + 1)) (by rw [xri_row rfl rfl]; show (0 : Int) ≤ _ ∧ _ ≤ (255 : Int); omega)) (RH.o (RH.o hH_M (by decide) (by decide) (by decide)) (by decide) (by decide) (by decide)) (RF.o (RF.o hS_M (by decide) (by decide)) (by decide) (by decide))  (fun a i f598 f599 => ((ju_c _ _ f599).trans ((ju_c _ _ f599).trans (hF_M a i f598 f599)))) (fun i g1 => ((ju_c _ _ (by decide)).trans ((ju_c _ _ (by decide)).trans (hG_M i g1)))) (by omega) (by omega) (by omega) (by omega) (by omega) (by omega) (by omega) (by omega) ((((ju_c _ _ (by decide)).trans ((ju_c _ _ (by decide)).trans e5))).trans (by omega)) (by have hs : M0 638 f + flg6 M0 f = v25 := (by unfold flg6; rw [(show M0 638 (f) = v7 from (hF_M 638 (f) (nne rfl) (nne rfl)).symm.trans e7), (show M0 628 (f) = v8 from (hF_M 628 (f) (nne rfl) (nne rfl)).symm.trans e8), (show M0 632 (2 * f) = v10 from (hF_M 632 (2 * f) (nne rfl) (nne rfl)).symm.trans e10), (show M0 632 ((2 * f) + 1) = v22 from (hF_M 632 ((2 * f) + 1) (by decide) (by decide)).symm.trans e22), (show M0 634 ((2 * f) + 1) = v24 from (hF_M 634 ((2 * f) + 1) (by decide) (by decide)).symm.trans e24)]; (repeat' split) <;> omega); rw [hs, (show M0 629 f = v6 from (hF_M 629 f (nne rfl) (nne rfl)).symm.trans e6), jp1 (by omega), jp1 (by omega), hy2.1]; rfl) ⟨by rw [← hy2.2]; exact e5.symm, by rw [u6_1 ⟨by rw [(show M0 627 f = v2 from (hF_M 627 f (nne rfl) (nne rfl)).symm.trans e2)]; omega, by rw [(show M0 640 f = v4 from (hF_M 640 f (nne rfl) (nne rfl)).symm.trans e4)]; omega⟩]; decide⟩
                · have sx130 : (1 : Int) ≤ v24 := by omega
                  clear h130
                  refine jr.sipush rfl (by decide) ?_
                  refine jr.goto rfl rfl ?_
                  refine jr.ior rfl ?_
                  have b26 : j_or v23 128 = v23 + 128 ∧ 0 ≤ j_or v23 128 ∧ j_or v23 128 ≤ 255 := ⟨j_or_a 7 (by decide) (by omega) (by omega), by rw [j_or_a 7 (by decide) (by omega) (by omega)]; omega⟩
                  generalize j_or v23 128 = v26 at b26 ⊢
                  refine jr.iast (i := (v5 + 1)) (x := v26) rfl (nlt rfl) rfl (Nat.le_of_ble_eq_true rfl) (by omega) (by omega) ?_
                  refine jr.pick (ls := [_, _, _, _, _]) [0, 1, 2, 3, 4] rfl rfl ?_
                  exact r_export_L142_x q (nM - 1) (ih (nM - 1) (by omega)) (ju (ju M 599 v5 v6) 599 (v5 + 1) v26) ((2 * f) + 1) (2 * f) v5 f (RI.u (RI.u hI_M (a := 599) (i := v5) (by rw [xri_row rfl rfl]; show (0 : Int) ≤ _ ∧ _ ≤ (255 : Int); omega)) (a := 599) (i := (v5 + 1)) (by rw [xri_row rfl rfl]; show (0 : Int) ≤ _ ∧ _ ≤ (255 : Int); omega)) (RH.o (RH.o hH_M (by decide) (by decide) (by decide)) (by decide) (by decide) (by decide)) (RF.o (RF.o hS_M (by decide) (by decide)) (by decide) (by decide))  (fun a i f598 f599 => ((ju_c _ _ f599).trans ((ju_c _ _ f599).trans (hF_M a i f598 f599)))) (fun i g1 => ((ju_c _ _ (by decide)).trans ((ju_c _ _ (by decide)).trans (hG_M i g1)))) (by omega) (by omega) (by omega) (by omega) (by omega) (by omega) (by omega) (by omega) ((((ju_c _ _ (by decide)).trans ((ju_c _ _ (by decide)).trans e5))).trans (by omega)) (by have hs : M0 638 f + flg6 M0 f = v26 := (by unfold flg6; rw [(show M0 638 (f) = v7 from (hF_M 638 (f) (nne rfl) (nne rfl)).symm.trans e7), (show M0 628 (f) = v8 from (hF_M 628 (f) (nne rfl) (nne rfl)).symm.trans e8), (show M0 632 (2 * f) = v10 from (hF_M 632 (2 * f) (nne rfl) (nne rfl)).symm.trans e10), (show M0 632 ((2 * f) + 1) = v22 from (hF_M 632 ((2 * f) + 1) (by decide) (by decide)).symm.trans e22), (show M0 634 ((2 * f) + 1) = v24 from (hF_M 634 ((2 * f) + 1) (by decide) (by decide)).symm.trans e24)]; (repeat' split) <;> omega); rw [hs, (show M0 629 f = v6 from (hF_M 629 f (nne rfl) (nne rfl)).symm.trans e6), jp1 (by omega), jp1 (by omega), hy2.1]; rfl) ⟨by rw [← hy2.2]; exact e5.symm, by rw [u6_1 ⟨by rw [(show M0 627 f = v2 from (hF_M 627 f (nne rfl) (nne rfl)).symm.trans e2)]; omega, by rw [(show M0 640 f = v4 from (hF_M 640 f (nne rfl) (nne rfl)).symm.trans e4)]; omega⟩]; decide⟩
              · have sx113 : (1 : Int) ≤ v22 := by omega
                clear h113
                refine jr.bipush rfl (jbp _ (nlt rfl)) ?_
                refine jr.goto rfl rfl ?_
                refine jr.ior rfl ?_
                have b27 : j_or v21 64 = v21 + 64 ∧ 0 ≤ j_or v21 64 ∧ j_or v21 64 ≤ 127 := ⟨j_or_a 6 (by decide) (by omega) (by omega), by rw [j_or_a 6 (by decide) (by omega) (by omega)]; omega⟩
                generalize j_or v21 64 = v27 at b27 ⊢
                refine jr.aload_n rfl rfl ?_
                refine jr.getf (i := 46) (v := .ref 634) rfl rfl (nlt rfl) rfl (nlt rfl) rfl rfl rfl rfl ?_
                refine jr.iload rfl rfl ?_
                obtain ⟨v28, e28⟩ : ∃ z, M 634 ((2 * f) + 1) = z := ⟨_, rfl⟩
                have b28 : 0 ≤ v28 ∧ v28 ≤ 1 := by rw [← e28]; exact (by have q := hI_M 634 ((2 * f) + 1) (by decide); rw [xri_row rfl rfl] at q; exact q)
                refine jr.zald (i := ((2 * f) + 1)) (x := v28) rfl (nlt rfl) rfl (Nat.le_of_ble_eq_true rfl) (by omega) (by omega) ((ju_c _ _ (by decide)).trans e28) ?_
                refine jr.if_eq rfl rfl (by first | (refine rgb (by assumption) ?_; exact rfl) | omega) (fun h130 => ?_) (fun h130 => ?_)
                · refine jr.iconst rfl ?_
                  refine jr.ior rfl ?_
                  have b29 : j_or v27 0 = v27 + 0 ∧ 0 ≤ j_or v27 0 ∧ j_or v27 0 ≤ 255 := ⟨j_or_a 7 (by decide) (by omega) (by omega), by rw [j_or_a 7 (by decide) (by omega) (by omega)]; omega⟩
                  generalize j_or v27 0 = v29 at b29 ⊢
                  refine jr.iast (i := (v5 + 1)) (x := v29) rfl (nlt rfl) rfl (Nat.le_of_ble_eq_true rfl) (by omega) (by omega) ?_
                  refine jr.pick (ls := [_, _, _, _, _]) [0, 1, 2, 3, 4] rfl rfl ?_
                  exact r_export_L142_x q (nM - 1) (ih (nM - 1) (by omega)) (ju (ju M 599 v5 v6) 599 (v5 + 1) v29) ((2 * f) + 1) (2 * f) v5 f (RI.u (RI.u hI_M (a := 599) (i := v5) (by rw [xri_row rfl rfl]; show (0 : Int) ≤ _ ∧ _ ≤ (255 : Int); omega)) (a := 599) (i := (v5 + 1)) (by rw [xri_row rfl rfl]; show (0 : Int) ≤ _ ∧ _ ≤ (255 : Int); omega)) (RH.o (RH.o hH_M (by decide) (by decide) (by decide)) (by decide) (by decide) (by decide)) (RF.o (RF.o hS_M (by decide) (by decide)) (by decide) (by decide))  (fun a i f598 f599 => ((ju_c _ _ f599).trans ((ju_c _ _ f599).trans (hF_M a i f598 f599)))) (fun i g1 => ((ju_c _ _ (by decide)).trans ((ju_c _ _ (by decide)).trans (hG_M i g1)))) (by omega) (by omega) (by omega) (by omega) (by omega) (by omega) (by omega) (by omega) ((((ju_c _ _ (by decide)).trans ((ju_c _ _ (by decide)).trans e5))).trans (by omega)) (by have hs : M0 638 f + flg6 M0 f = v29 := (by unfold flg6; rw [(show M0 638 (f) = v7 from (hF_M 638 (f) (nne rfl) (nne rfl)).symm.trans e7), (show M0 628 (f) = v8 from (hF_M 628 (f) (nne rfl) (nne rfl)).symm.trans e8), (show M0 632 (2 * f) = v10 from (hF_M 632 (2 * f) (nne rfl) (nne rfl)).symm.trans e10), (show M0 632 ((2 * f) + 1) = v22 from (hF_M 632 ((2 * f) + 1) (by decide) (by decide)).symm.trans e22), (show M0 634 ((2 * f) + 1) = v28 from (hF_M 634 ((2 * f) + 1) (by decide) (by decide)).symm.trans e28)]; (repeat' split) <;> omega); rw [hs, (show M0 629 f = v6 from (hF_M 629 f (nne rfl) (nne rfl)).symm.trans e6), jp1 (by omega), jp1 (by omega), hy2.1]; rfl) ⟨by rw [← hy2.2]; exact e5.symm, by rw [u6_1 ⟨by rw [(show M0 627 f = v2 from (hF_M 627 f (nne rfl) (nne rfl)).symm.trans e2)]; omega, by rw [(show M0 640 f = v4 from (hF_M 640 f (nne rfl) (nne rfl)).symm.trans e4)]; omega⟩]; decide⟩
                · have sx130 : (1 : Int) ≤ v28 := by omega
                  clear h130
                  refine jr.sipush rfl (by decide) ?_
                  refine jr.goto rfl rfl ?_
                  refine jr.ior rfl ?_
                  have b30 : j_or v27 128 = v27 + 128 ∧ 0 ≤ j_or v27 128 ∧ j_or v27 128 ≤ 255 := ⟨j_or_a 7 (by decide) (by omega) (by omega), by rw [j_or_a 7 (by decide) (by omega) (by omega)]; omega⟩
                  generalize j_or v27 128 = v30 at b30 ⊢
                  refine jr.iast (i := (v5 + 1)) (x := v30) rfl (nlt rfl) rfl (Nat.le_of_ble_eq_true rfl) (by omega) (by omega) ?_
                  refine jr.pick (ls := [_, _, _, _, _]) [0, 1, 2, 3, 4] rfl rfl ?_
                  exact r_export_L142_x q (nM - 1) (ih (nM - 1) (by omega)) (ju (ju M 599 v5 v6) 599 (v5 + 1) v30) ((2 * f) + 1) (2 * f) v5 f (RI.u (RI.u hI_M (a := 599) (i := v5) (by rw [xri_row rfl rfl]; show (0 : Int) ≤ _ ∧ _ ≤ (255 : Int); omega)) (a := 599) (i := (v5 + 1)) (by rw [xri_row rfl rfl]; show (0 : Int) ≤ _ ∧ _ ≤ (255 : Int); omega)) (RH.o (RH.o hH_M (by decide) (by decide) (by decide)) (by decide) (by decide) (by decide)) (RF.o (RF.o hS_M (by decide) (by decide)) (by decide) (by decide))  (fun a i f598 f599 => ((ju_c _ _ f599).trans ((ju_c _ _ f599).trans (hF_M a i f598 f599)))) (fun i g1 => ((ju_c _ _ (by decide)).trans ((ju_c _ _ (by decide)).trans (hG_M i g1)))) (by omega) (by omega) (by omega) (by omega) (by omega) (by omega) (by omega) (by omega) ((((ju_c _ _ (by decide)).trans ((ju_c _ _ (by decide)).trans e5))).trans (by omega)) (by have hs : M0 638 f + flg6 M0 f = v30 := (by unfold flg6; rw [(show M0 638 (f) = v7 from (hF_M 638 (f) (nne rfl) (nne rfl)).symm.trans e7), (show M0 628 (f) = v8 from (hF_M 628 (f) (nne rfl) (nne rfl)).symm.trans e8), (show M0 632 (2 * f) = v10 from (hF_M 632 (2 * f) (nne rfl) (nne rfl)).symm.trans e10), (show M0 632 ((2 * f) + 1) = v22 from (hF_M 632 ((2 * f) + 1) (by decide) (by decide)).symm.trans e22), (show M0 634 ((2 * f) + 1) = v28 from (hF_M 634 ((2 * f) + 1) (by decide) (by decide)).symm.trans e28)]; (repeat' split) <;> omega); rw [hs, (show M0 629 f = v6 from (hF_M 629 f (nne rfl) (nne rfl)).symm.trans e6), jp1 (by omega), jp1 (by omega), hy2.1]; rfl) ⟨by rw [← hy2.2]; exact e5.symm, by rw [u6_1 ⟨by rw [(show M0 627 f = v2 from (hF_M 627 f (nne rfl) (nne rfl)).symm.trans e2)]; omega, by rw [(show M0 640 f = v4 from (hF_M 640 f (nne rfl) (nne rfl)).symm.trans e4)]; omega⟩]; decide⟩
          · have sx80 : (1 : Int) ≤ v8 := by omega
            clear h80
            refine jr.bipush rfl (jbp _ (nlt rfl)) ?_
            refine jr.goto rfl rfl ?_
            refine jr.ior rfl ?_
            have b31 : j_or v7 16 = v7 + 16 ∧ 0 ≤ j_or v7 16 ∧ j_or v7 16 ≤ 31 := ⟨j_or_a 4 (by decide) (by omega) (by omega), by rw [j_or_a 4 (by decide) (by omega) (by omega)]; omega⟩
            generalize j_or v7 16 = v31 at b31 ⊢
            refine jr.aload_n rfl rfl ?_
            refine jr.getf (i := 44) (v := .ref 632) rfl rfl (nlt rfl) rfl (nlt rfl) rfl rfl rfl rfl ?_
            refine jr.iload_n rfl rfl ?_
            obtain ⟨v32, e32⟩ : ∃ z, M 632 (2 * f) = z := ⟨_, rfl⟩
            have b32 : 0 ≤ v32 ∧ v32 ≤ 1 := by rw [← e32]; exact (by have q := hI_M 632 (2 * f) (Nat.le_of_ble_eq_true rfl); rw [xri_row rfl rfl] at q; exact q)
            refine jr.zald (i := (2 * f)) (x := v32) rfl (nlt rfl) rfl (Nat.le_of_ble_eq_true rfl) (by omega) (by omega) ((ju_c _ _ (by decide)).trans e32) ?_
            refine jr.if_eq rfl rfl (by first | (refine rgb (by assumption) ?_; exact rfl) | omega) (fun h96 => ?_) (fun h96 => ?_)
            · refine jr.iconst rfl ?_
              refine jr.ior rfl ?_
              have b33 : j_or v31 0 = v31 + 0 ∧ 0 ≤ j_or v31 0 ∧ j_or v31 0 ≤ 63 := ⟨j_or_a 5 (by decide) (by omega) (by omega), by rw [j_or_a 5 (by decide) (by omega) (by omega)]; omega⟩
              generalize j_or v31 0 = v33 at b33 ⊢
              refine jr.aload_n rfl rfl ?_
              refine jr.getf (i := 44) (v := .ref 632) rfl rfl (nlt rfl) rfl (nlt rfl) rfl rfl rfl rfl ?_
              refine jr.iload rfl rfl ?_
              obtain ⟨v34, e34⟩ : ∃ z, M 632 ((2 * f) + 1) = z := ⟨_, rfl⟩
              have b34 : 0 ≤ v34 ∧ v34 ≤ 1 := by rw [← e34]; exact (by have q := hI_M 632 ((2 * f) + 1) (by decide); rw [xri_row rfl rfl] at q; exact q)
              refine jr.zald (i := ((2 * f) + 1)) (x := v34) rfl (nlt rfl) rfl (Nat.le_of_ble_eq_true rfl) (by omega) (by omega) ((ju_c _ _ (by decide)).trans e34) ?_
              refine jr.if_eq rfl rfl (by first | (refine rgb (by assumption) ?_; exact rfl) | omega) (fun h113 => ?_) (fun h113 => ?_)
              · refine jr.iconst rfl ?_
                refine jr.ior rfl ?_
                have b35 : j_or v33 0 = v33 + 0 ∧ 0 ≤ j_or v33 0 ∧ j_or v33 0 ≤ 127 := ⟨j_or_a 6 (by decide) (by omega) (by omega), by rw [j_or_a 6 (by decide) (by omega) (by omega)]; omega⟩
                generalize j_or v33 0 = v35 at b35 ⊢
                refine jr.aload_n rfl rfl ?_
                refine jr.getf (i := 46) (v := .ref 634) rfl rfl (nlt rfl) rfl (nlt rfl) rfl rfl rfl rfl ?_
                refine jr.iload rfl rfl ?_
                obtain ⟨v36, e36⟩ : ∃ z, M 634 ((2 * f) + 1) = z := ⟨_, rfl⟩
                have b36 : 0 ≤ v36 ∧ v36 ≤ 1 := by rw [← e36]; exact (by have q := hI_M 634 ((2 * f) + 1) (by decide); rw [xri_row rfl rfl] at q; exact q)
                refine jr.zald (i := ((2 * f) + 1)) (x := v36) rfl (nlt rfl) rfl (Nat.le_of_ble_eq_true rfl) (by omega) (by omega) ((ju_c _ _ (by decide)).trans e36) ?_
                refine jr.if_eq rfl rfl (by first | (refine rgb (by assumption) ?_; exact rfl) | omega) (fun h130 => ?_) (fun h130 => ?_)
                · refine jr.iconst rfl ?_
                  refine jr.ior rfl ?_
                  have b37 : j_or v35 0 = v35 + 0 ∧ 0 ≤ j_or v35 0 ∧ j_or v35 0 ≤ 255 := ⟨j_or_a 7 (by decide) (by omega) (by omega), by rw [j_or_a 7 (by decide) (by omega) (by omega)]; omega⟩
                  generalize j_or v35 0 = v37 at b37 ⊢
                  refine jr.iast (i := (v5 + 1)) (x := v37) rfl (nlt rfl) rfl (Nat.le_of_ble_eq_true rfl) (by omega) (by omega) ?_
                  refine jr.pick (ls := [_, _, _, _, _]) [0, 1, 2, 3, 4] rfl rfl ?_
                  exact r_export_L142_x q (nM - 1) (ih (nM - 1) (by omega)) (ju (ju M 599 v5 v6) 599 (v5 + 1) v37) ((2 * f) + 1) (2 * f) v5 f (RI.u (RI.u hI_M (a := 599) (i := v5) (by rw [xri_row rfl rfl]; show (0 : Int) ≤ _ ∧ _ ≤ (255 : Int); omega)) (a := 599) (i := (v5 + 1)) (by rw [xri_row rfl rfl]; show (0 : Int) ≤ _ ∧ _ ≤ (255 : Int); omega)) (RH.o (RH.o hH_M (by decide) (by decide) (by decide)) (by decide) (by decide) (by decide)) (RF.o (RF.o hS_M (by decide) (by decide)) (by decide) (by decide))  (fun a i f598 f599 => ((ju_c _ _ f599).trans ((ju_c _ _ f599).trans (hF_M a i f598 f599)))) (fun i g1 => ((ju_c _ _ (by decide)).trans ((ju_c _ _ (by decide)).trans (hG_M i g1)))) (by omega) (by omega) (by omega) (by omega) (by omega) (by omega) (by omega) (by omega) ((((ju_c _ _ (by decide)).trans ((ju_c _ _ (by decide)).trans e5))).trans (by omega)) (by have hs : M0 638 f + flg6 M0 f = v37 := (by unfold flg6; rw [(show M0 638 (f) = v7 from (hF_M 638 (f) (nne rfl) (nne rfl)).symm.trans e7), (show M0 628 (f) = v8 from (hF_M 628 (f) (nne rfl) (nne rfl)).symm.trans e8), (show M0 632 (2 * f) = v32 from (hF_M 632 (2 * f) (nne rfl) (nne rfl)).symm.trans e32), (show M0 632 ((2 * f) + 1) = v34 from (hF_M 632 ((2 * f) + 1) (by decide) (by decide)).symm.trans e34), (show M0 634 ((2 * f) + 1) = v36 from (hF_M 634 ((2 * f) + 1) (by decide) (by decide)).symm.trans e36)]; (repeat' split) <;> omega); rw [hs, (show M0 629 f = v6 from (hF_M 629 f (nne rfl) (nne rfl)).symm.trans e6), jp1 (by omega), jp1 (by omega), hy2.1]; rfl) ⟨by rw [← hy2.2]; exact e5.symm, by rw [u6_1 ⟨by rw [(show M0 627 f = v2 from (hF_M 627 f (nne rfl) (nne rfl)).symm.trans e2)]; omega, by rw [(show M0 640 f = v4 from (hF_M 640 f (nne rfl) (nne rfl)).symm.trans e4)]; omega⟩]; decide⟩
                · have sx130 : (1 : Int) ≤ v36 := by omega
                  clear h130
                  refine jr.sipush rfl (by decide) ?_
                  refine jr.goto rfl rfl ?_
                  refine jr.ior rfl ?_
                  have b38 : j_or v35 128 = v35 + 128 ∧ 0 ≤ j_or v35 128 ∧ j_or v35 128 ≤ 255 := ⟨j_or_a 7 (by decide) (by omega) (by omega), by rw [j_or_a 7 (by decide) (by omega) (by omega)]; omega⟩
                  generalize j_or v35 128 = v38 at b38 ⊢
                  refine jr.iast (i := (v5 + 1)) (x := v38) rfl (nlt rfl) rfl (Nat.le_of_ble_eq_true rfl) (by omega) (by omega) ?_
                  refine jr.pick (ls := [_, _, _, _, _]) [0, 1, 2, 3, 4] rfl rfl ?_
                  exact r_export_L142_x q (nM - 1) (ih (nM - 1) (by omega)) (ju (ju M 599 v5 v6) 599 (v5 + 1) v38) ((2 * f) + 1) (2 * f) v5 f (RI.u (RI.u hI_M (a := 599) (i := v5) (by rw [xri_row rfl rfl]; show (0 : Int) ≤ _ ∧ _ ≤ (255 : Int); omega)) (a := 599) (i := (v5 + 1)) (by rw [xri_row rfl rfl]; show (0 : Int) ≤ _ ∧ _ ≤ (255 : Int); omega)) (RH.o (RH.o hH_M (by decide) (by decide) (by decide)) (by decide) (by decide) (by decide)) (RF.o (RF.o hS_M (by decide) (by decide)) (by decide) (by decide))  (fun a i f598 f599 => ((ju_c _ _ f599).trans ((ju_c _ _ f599).trans (hF_M a i f598 f599)))) (fun i g1 => ((ju_c _ _ (by decide)).trans ((ju_c _ _ (by decide)).trans (hG_M i g1)))) (by omega) (by omega) (by omega) (by omega) (by omega) (by omega) (by omega) (by omega) ((((ju_c _ _ (by decide)).trans ((ju_c _ _ (by decide)).trans e5))).trans (by omega)) (by have hs : M0 638 f + flg6 M0 f = v38 := (by unfold flg6; rw [(show M0 638 (f) = v7 from (hF_M 638 (f) (nne rfl) (nne rfl)).symm.trans e7), (show M0 628 (f) = v8 from (hF_M 628 (f) (nne rfl) (nne rfl)).symm.trans e8), (show M0 632 (2 * f) = v32 from (hF_M 632 (2 * f) (nne rfl) (nne rfl)).symm.trans e32), (show M0 632 ((2 * f) + 1) = v34 from (hF_M 632 ((2 * f) + 1) (by decide) (by decide)).symm.trans e34), (show M0 634 ((2 * f) + 1) = v36 from (hF_M 634 ((2 * f) + 1) (by decide) (by decide)).symm.trans e36)]; (repeat' split) <;> omega); rw [hs, (show M0 629 f = v6 from (hF_M 629 f (nne rfl) (nne rfl)).symm.trans e6), jp1 (by omega), jp1 (by omega), hy2.1]; rfl) ⟨by rw [← hy2.2]; exact e5.symm, by rw [u6_1 ⟨by rw [(show M0 627 f = v2 from (hF_M 627 f (nne rfl) (nne rfl)).symm.trans e2)]; omega, by rw [(show M0 640 f = v4 from (hF_M 640 f (nne rfl) (nne rfl)).symm.trans e4)]; omega⟩]; decide⟩
              · have sx113 : (1 : Int) ≤ v34 := by omega
                clear h113
                refine jr.bipush rfl (jbp _ (nlt rfl)) ?_
                refine jr.goto rfl rfl ?_
                refine jr.ior rfl ?_
                have b39 : j_or v33 64 = v33 + 64 ∧ 0 ≤ j_or v33 64 ∧ j_or v33 64 ≤ 127 := ⟨j_or_a 6 (by decide) (by omega) (by omega), by rw [j_or_a 6 (by decide) (by omega) (by omega)]; omega⟩
                generalize j_or v33 64 = v39 at b39 ⊢
                refine jr.aload_n rfl rfl ?_
                refine jr.getf (i := 46) (v := .ref 634) rfl rfl (nlt rfl) rfl (nlt rfl) rfl rfl rfl rfl ?_
                refine jr.iload rfl rfl ?_
                obtain ⟨v40, e40⟩ : ∃ z, M 634 ((2 * f) + 1) = z := ⟨_, rfl⟩
                have b40 : 0 ≤ v40 ∧ v40 ≤ 1 := by rw [← e40]; exact (by have q := hI_M 634 ((2 * f) + 1) (by decide); rw [xri_row rfl rfl] at q; exact q)
                refine jr.zald (i := ((2 * f) + 1)) (x := v40) rfl (nlt rfl) rfl (Nat.le_of_ble_eq_true rfl) (by omega) (by omega) ((ju_c _ _ (by decide)).trans e40) ?_
                refine jr.if_eq rfl rfl (by first | (refine rgb (by assumption) ?_; exact rfl) | omega) (fun h130 => ?_) (fun h130 => ?_)
                · refine jr.iconst rfl ?_
                  refine jr.ior rfl ?_
                  have b41 : j_or v39 0 = v39 + 0 ∧ 0 ≤ j_or v39 0 ∧ j_or v39 0 ≤ 255 := ⟨j_or_a 7 (by decide) (by omega) (by omega), by rw [j_or_a 7 (by decide) (by omega) (by omega)]; omega⟩
                  generalize j_or v39 0 = v41 at b41 ⊢
                  refine jr.iast (i := (v5 + 1)) (x := v41) rfl (nlt rfl) rfl (Nat.le_of_ble_eq_true rfl) (by omega) (by omega) ?_
                  refine jr.pick (ls := [_, _, _, _, _]) [0, 1, 2, 3, 4] rfl rfl ?_
                  exact r_export_L142_x q (nM - 1) (ih (nM - 1) (by omega)) (ju (ju M 599 v5 v6) 599 (v5 + 1) v41) ((2 * f) + 1) (2 * f) v5 f (RI.u (RI.u hI_M (a := 599) (i := v5) (by rw [xri_row rfl rfl]; show (0 : Int) ≤ _ ∧ _ ≤ (255 : Int); omega)) (a := 599) (i := (v5 + 1)) (by rw [xri_row rfl rfl]; show (0 : Int) ≤ _ ∧ _ ≤ (255 : Int); omega)) (RH.o (RH.o hH_M (by decide) (by decide) (by decide)) (by decide) (by decide) (by decide)) (RF.o (RF.o hS_M (by decide) (by decide)) (by decide) (by decide))  (fun a i f598 f599 => ((ju_c _ _ f599).trans ((ju_c _ _ f599).trans (hF_M a i f598 f599)))) (fun i g1 => ((ju_c _ _ (by decide)).trans ((ju_c _ _ (by decide)).trans (hG_M i g1)))) (by omega) (by omega) (by omega) (by omega) (by omega) (by omega) (by omega) (by omega) ((((ju_c _ _ (by decide)).trans ((ju_c _ _ (by decide)).trans e5))).trans (by omega)) (by have hs : M0 638 f + flg6 M0 f = v41 := (by unfold flg6; rw [(show M0 638 (f) = v7 from (hF_M 638 (f) (nne rfl) (nne rfl)).symm.trans e7), (show M0 628 (f) = v8 from (hF_M 628 (f) (nne rfl) (nne rfl)).symm.trans e8), (show M0 632 (2 * f) = v32 from (hF_M 632 (2 * f) (nne rfl) (nne rfl)).symm.trans e32), (show M0 632 ((2 * f) + 1) = v34 from (hF_M 632 ((2 * f) + 1) (by decide) (by decide)).symm.trans e34), (show M0 634 ((2 * f) + 1) = v40 from (hF_M 634 ((2 * f) + 1) (by decide) (by decide)).symm.trans e40)]; (repeat' split) <;> omega); rw [hs, (show M0 629 f = v6 from (hF_M 629 f (nne rfl) (nne rfl)).symm.trans e6), jp1 (by omega), jp1 (by omega), hy2.1]; rfl) ⟨by rw [← hy2.2]; exact e5.symm, by rw [u6_1 ⟨by rw [(show M0 627 f = v2 from (hF_M 627 f (nne rfl) (nne rfl)).symm.trans e2)]; omega, by rw [(show M0 640 f = v4 from (hF_M 640 f (nne rfl) (nne rfl)).symm.trans e4)]; omega⟩]; decide⟩
                · have sx130 : (1 : Int) ≤ v40 := by omega
                  clear h130
                  refine jr.sipush rfl (by decide) ?_
                  refine jr.goto rfl rfl ?_
                  refine jr.ior rfl ?_
                  have b42 : j_or v39 128 = v39 + 128 ∧ 0 ≤ j_or v39 128 ∧ j_or v39 128 ≤ 255 := ⟨j_or_a 7 (by decide) (by omega) (by omega), by rw [j_or_a 7 (by decide) (by omega) (by omega)]; omega⟩
                  generalize j_or v39 128 = v42 at b42 ⊢
                  refine jr.iast (i := (v5 + 1)) (x := v42) rfl (nlt rfl) rfl (Nat.le_of_ble_eq_true rfl) (by omega) (by omega) ?_
                  refine jr.pick (ls := [_, _, _, _, _]) [0, 1, 2, 3, 4] rfl rfl ?_
                  exact r_export_L142_x q (nM - 1) (ih (nM - 1) (by omega)) (ju (ju M 599 v5 v6) 599 (v5 + 1) v42) ((2 * f) + 1) (2 * f) v5 f (RI.u (RI.u hI_M (a := 599) (i := v5) (by rw [xri_row rfl rfl]; show (0 : Int) ≤ _ ∧ _ ≤ (255 : Int); omega)) (a := 599) (i := (v5 + 1)) (by rw [xri_row rfl rfl]; show (0 : Int) ≤ _ ∧ _ ≤ (255 : Int); omega)) (RH.o (RH.o hH_M (by decide) (by decide) (by decide)) (by decide) (by decide) (by decide)) (RF.o (RF.o hS_M (by decide) (by decide)) (by decide) (by decide))  (fun a i f598 f599 => ((ju_c _ _ f599).trans ((ju_c _ _ f599).trans (hF_M a i f598 f599)))) (fun i g1 => ((ju_c _ _ (by decide)).trans ((ju_c _ _ (by decide)).trans (hG_M i g1)))) (by omega) (by omega) (by omega) (by omega) (by omega) (by omega) (by omega) (by omega) ((((ju_c _ _ (by decide)).trans ((ju_c _ _ (by decide)).trans e5))).trans (by omega)) (by have hs : M0 638 f + flg6 M0 f = v42 := (by unfold flg6; rw [(show M0 638 (f) = v7 from (hF_M 638 (f) (nne rfl) (nne rfl)).symm.trans e7), (show M0 628 (f) = v8 from (hF_M 628 (f) (nne rfl) (nne rfl)).symm.trans e8), (show M0 632 (2 * f) = v32 from (hF_M 632 (2 * f) (nne rfl) (nne rfl)).symm.trans e32), (show M0 632 ((2 * f) + 1) = v34 from (hF_M 632 ((2 * f) + 1) (by decide) (by decide)).symm.trans e34), (show M0 634 ((2 * f) + 1) = v40 from (hF_M 634 ((2 * f) + 1) (by decide) (by decide)).symm.trans e40)]; (repeat' split) <;> omega); rw [hs, (show M0 629 f = v6 from (hF_M 629 f (nne rfl) (nne rfl)).symm.trans e6), jp1 (by omega), jp1 (by omega), hy2.1]; rfl) ⟨by rw [← hy2.2]; exact e5.symm, by rw [u6_1 ⟨by rw [(show M0 627 f = v2 from (hF_M 627 f (nne rfl) (nne rfl)).symm.trans e2)]; omega, by rw [(show M0 640 f = v4 from (hF_M 640 f (nne rfl) (nne rfl)).symm.trans e4)]; omega⟩]; decide⟩
            · have sx96 : (1 : Int) ≤ v32 := by omega
              clear h96
              refine jr.bipush rfl (jbp _ (nlt rfl)) ?_
              refine jr.goto rfl rfl ?_
              refine jr.ior rfl ?_
              have b43 : j_or v31 32 = v31 + 32 ∧ 0 ≤ j_or v31 32 ∧ j_or v31 32 ≤ 63 := ⟨j_or_a 5 (by decide) (by omega) (by omega), by rw [j_or_a 5 (by decide) (by omega) (by omega)]; omega⟩
              generalize j_or v31 32 = v43 at b43 ⊢
              refine jr.aload_n rfl rfl ?_
              refine jr.getf (i := 44) (v := .ref 632) rfl rfl (nlt rfl) rfl (nlt rfl) rfl rfl rfl rfl ?_
              refine jr.iload rfl rfl ?_
              obtain ⟨v44, e44⟩ : ∃ z, M 632 ((2 * f) + 1) = z := ⟨_, rfl⟩
              have b44 : 0 ≤ v44 ∧ v44 ≤ 1 := by rw [← e44]; exact (by have q := hI_M 632 ((2 * f) + 1) (by decide); rw [xri_row rfl rfl] at q; exact q)
              refine jr.zald (i := ((2 * f) + 1)) (x := v44) rfl (nlt rfl) rfl (Nat.le_of_ble_eq_true rfl) (by omega) (by omega) ((ju_c _ _ (by decide)).trans e44) ?_
              refine jr.if_eq rfl rfl (by first | (refine rgb (by assumption) ?_; exact rfl) | omega) (fun h113 => ?_) (fun h113 => ?_)
              · refine jr.iconst rfl ?_
                refine jr.ior rfl ?_
                have b45 : j_or v43 0 = v43 + 0 ∧ 0 ≤ j_or v43 0 ∧ j_or v43 0 ≤ 127 := ⟨j_or_a 6 (by decide) (by omega) (by omega), by rw [j_or_a 6 (by decide) (by omega) (by omega)]; omega⟩
                generalize j_or v43 0 = v45 at b45 ⊢
                refine jr.aload_n rfl rfl ?_
                refine jr.getf (i := 46) (v := .ref 634) rfl rfl (nlt rfl) rfl (nlt rfl) rfl rfl rfl rfl ?_
                refine jr.iload rfl rfl ?_
                obtain ⟨v46, e46⟩ : ∃ z, M 634 ((2 * f) + 1) = z := ⟨_, rfl⟩
                have b46 : 0 ≤ v46 ∧ v46 ≤ 1 := by rw [← e46]; exact (by have q := hI_M 634 ((2 * f) + 1) (by decide); rw [xri_row rfl rfl] at q; exact q)
                refine jr.zald (i := ((2 * f) + 1)) (x := v46) rfl (nlt rfl) rfl (Nat.le_of_ble_eq_true rfl) (by omega) (by omega) ((ju_c _ _ (by decide)).trans e46) ?_
                refine jr.if_eq rfl rfl (by first | (refine rgb (by assumption) ?_; exact rfl) | omega) (fun h130 => ?_) (fun h130 => ?_)
                · refine jr.iconst rfl ?_
                  refine jr.ior rfl ?_
                  have b47 : j_or v45 0 = v45 + 0 ∧ 0 ≤ j_or v45 0 ∧ j_or v45 0 ≤ 255 := ⟨j_or_a 7 (by decide) (by omega) (by omega), by rw [j_or_a 7 (by decide) (by omega) (by omega)]; omega⟩
                  generalize j_or v45 0 = v47 at b47 ⊢
                  refine jr.iast (i := (v5 + 1)) (x := v47) rfl (nlt rfl) rfl (Nat.le_of_ble_eq_true rfl) (by omega) (by omega) ?_
                  refine jr.pick (ls := [_, _, _, _, _]) [0, 1, 2, 3, 4] rfl rfl ?_
                  exact r_export_L142_x q (nM - 1) (ih (nM - 1) (by omega)) (ju (ju M 599 v5 v6) 599 (v5 + 1) v47) ((2 * f) + 1) (2 * f) v5 f (RI.u (RI.u hI_M (a := 599) (i := v5) (by rw [xri_row rfl rfl]; show (0 : Int) ≤ _ ∧ _ ≤ (255 : Int); omega)) (a := 599) (i := (v5 + 1)) (by rw [xri_row rfl rfl]; show (0 : Int) ≤ _ ∧ _ ≤ (255 : Int); omega)) (RH.o (RH.o hH_M (by decide) (by decide) (by decide)) (by decide) (by decide) (by decide)) (RF.o (RF.o hS_M (by decide) (by decide)) (by decide) (by decide))  (fun a i f598 f599 => ((ju_c _ _ f599).trans ((ju_c _ _ f599).trans (hF_M a i f598 f599)))) (fun i g1 => ((ju_c _ _ (by decide)).trans ((ju_c _ _ (by decide)).trans (hG_M i g1)))) (by omega) (by omega) (by omega) (by omega) (by omega) (by omega) (by omega) (by omega) ((((ju_c _ _ (by decide)).trans ((ju_c _ _ (by decide)).trans e5))).trans (by omega)) (by have hs : M0 638 f + flg6 M0 f = v47 := (by unfold flg6; rw [(show M0 638 (f) = v7 from (hF_M 638 (f) (nne rfl) (nne rfl)).symm.trans e7), (show M0 628 (f) = v8 from (hF_M 628 (f) (nne rfl) (nne rfl)).symm.trans e8), (show M0 632 (2 * f) = v32 from (hF_M 632 (2 * f) (nne rfl) (nne rfl)).symm.trans e32), (show M0 632 ((2 * f) + 1) = v44 from (hF_M 632 ((2 * f) + 1) (by decide) (by decide)).symm.trans e44), (show M0 634 ((2 * f) + 1) = v46 from (hF_M 634 ((2 * f) + 1) (by decide) (by decide)).symm.trans e46)]; (repeat' split) <;> omega); rw [hs, (show M0 629 f = v6 from (hF_M 629 f (nne rfl) (nne rfl)).symm.trans e6), jp1 (by omega), jp1 (by omega), hy2.1]; rfl) ⟨by rw [← hy2.2]; exact e5.symm, by rw [u6_1 ⟨by rw [(show M0 627 f = v2 from (hF_M 627 f (nne rfl) (nne rfl)).symm.trans e2)]; omega, by rw [(show M0 640 f = v4 from (hF_M 640 f (nne rfl) (nne rfl)).symm.trans e4)]; omega⟩]; decide⟩
                · have sx130 : (1 : Int) ≤ v46 := by omega
                  clear h130
                  refine jr.sipush rfl (by decide) ?_
                  refine jr.goto rfl rfl ?_
                  refine jr.ior rfl ?_
                  have b48 : j_or v45 128 = v45 + 128 ∧ 0 ≤ j_or v45 128 ∧ j_or v45 128 ≤ 255 := ⟨j_or_a 7 (by decide) (by omega) (by omega), by rw [j_or_a 7 (by decide) (by omega) (by omega)]; omega⟩
                  generalize j_or v45 128 = v48 at b48 ⊢
                  refine jr.iast (i := (v5 + 1)) (x := v48) rfl (nlt rfl) rfl (Nat.le_of_ble_eq_true rfl) (by omega) (by omega) ?_
                  refine jr.pick (ls := [_, _, _, _, _]) [0, 1, 2, 3, 4] rfl rfl ?_
                  exact r_export_L142_x q (nM - 1) (ih (nM - 1) (by omega)) (ju (ju M 599 v5 v6) 599 (v5 + 1) v48) ((2 * f) + 1) (2 * f) v5 f (RI.u (RI.u hI_M (a := 599) (i := v5) (by rw [xri_row rfl rfl]; show (0 : Int) ≤ _ ∧ _ ≤ (255 : Int); omega)) (a := 599) (i := (v5 + 1)) (by rw [xri_row rfl rfl]; show (0 : Int) ≤ _ ∧ _ ≤ (255 : Int); omega)) (RH.o (RH.o hH_M (by decide) (by decide) (by decide)) (by decide) (by decide) (by decide)) (RF.o (RF.o hS_M (by decide) (by decide)) (by decide) (by decide))  (fun a i f598 f599 => ((ju_c _ _ f599).trans ((ju_c _ _ f599).trans (hF_M a i f598 f599)))) (fun i g1 => ((ju_c _ _ (by decide)).trans ((ju_c _ _ (by decide)).trans (hG_M i g1)))) (by omega) (by omega) (by omega) (by omega) (by omega) (by omega) (by omega) (by omega) ((((ju_c _ _ (by decide)).trans ((ju_c _ _ (by decide)).trans e5))).trans (by omega)) (by have hs : M0 638 f + flg6 M0 f = v48 := (by unfold flg6; rw [(show M0 638 (f) = v7 from (hF_M 638 (f) (nne rfl) (nne rfl)).symm.trans e7), (show M0 628 (f) = v8 from (hF_M 628 (f) (nne rfl) (nne rfl)).symm.trans e8), (show M0 632 (2 * f) = v32 from (hF_M 632 (2 * f) (nne rfl) (nne rfl)).symm.trans e32), (show M0 632 ((2 * f) + 1) = v44 from (hF_M 632 ((2 * f) + 1) (by decide) (by decide)).symm.trans e44), (show M0 634 ((2 * f) + 1) = v46 from (hF_M 634 ((2 * f) + 1) (by decide) (by decide)).symm.trans e46)]; (repeat' split) <;> omega); rw [hs, (show M0 629 f = v6 from (hF_M 629 f (nne rfl) (nne rfl)).symm.trans e6), jp1 (by omega), jp1 (by omega), hy2.1]; rfl) ⟨by rw [← hy2.2]; exact e5.symm, by rw [u6_1 ⟨by rw [(show M0 627 f = v2 from (hF_M 627 f (nne rfl) (nne rfl)).symm.trans e2)]; omega, by rw [(show M0 640 f = v4 from (hF_M 640 f (nne rfl) (nne rfl)).symm.trans e4)]; omega⟩]; decide⟩
              · have sx113 : (1 : Int) ≤ v44 := by omega
                clear h113
                refine jr.bipush rfl (jbp _ (nlt rfl)) ?_
                refine jr.goto rfl rfl ?_
                refine jr.ior rfl ?_
                have b49 : j_or v43 64 = v43 + 64 ∧ 0 ≤ j_or v43 64 ∧ j_or v43 64 ≤ 127 := ⟨j_or_a 6 (by decide) (by omega) (by omega), by rw [j_or_a 6 (by decide) (by omega) (by omega)]; omega⟩
                generalize j_or v43 64 = v49 at b49 ⊢
                refine jr.aload_n rfl rfl ?_
                refine jr.getf (i := 46) (v := .ref 634) rfl rfl (nlt rfl) rfl (nlt rfl) rfl rfl rfl rfl ?_
                refine jr.iload rfl rfl ?_
                obtain ⟨v50, e50⟩ : ∃ z, M 634 ((2 * f) + 1) = z := ⟨_, rfl⟩
                have b50 : 0 ≤ v50 ∧ v50 ≤ 1 := by rw [← e50]; exact (by have q := hI_M 634 ((2 * f) + 1) (by decide); rw [xri_row rfl rfl] at q; exact q)
                refine jr.zald (i := ((2 * f) + 1)) (x := v50) rfl (nlt rfl) rfl (Nat.le_of_ble_eq_true rfl) (by omega) (by omega) ((ju_c _ _ (by decide)).trans e50) ?_
                refine jr.if_eq rfl rfl (by first | (refine rgb (by assumption) ?_; exact rfl) | omega) (fun h130 => ?_) (fun h130 => ?_)
                · refine jr.iconst rfl ?_
                  refine jr.ior rfl ?_
                  have b51 : j_or v49 0 = v49 + 0 ∧ 0 ≤ j_or v49 0 ∧ j_or v49 0 ≤ 255 := ⟨j_or_a 7 (by decide) (by omega) (by omega), by rw [j_or_a 7 (by decide) (by omega) (by omega)]; omega⟩
                  generalize j_or v49 0 = v51 at b51 ⊢
                  refine jr.iast (i := (v5 + 1)) (x := v51) rfl (nlt rfl) rfl (Nat.le_of_ble_eq_true rfl) (by omega) (by omega) ?_
                  refine jr.pick (ls := [_, _, _, _, _]) [0, 1, 2, 3, 4] rfl rfl ?_
                  exact r_export_L142_x q (nM - 1) (ih (nM - 1) (by omega)) (ju (ju M 599 v5 v6) 599 (v5 + 1) v51) ((2 * f) + 1) (2 * f) v5 f (RI.u (RI.u hI_M (a := 599) (i := v5) (by rw [xri_row rfl rfl]; show (0 : Int) ≤ _ ∧ _ ≤ (255 : Int); omega)) (a := 599) (i := (v5 + 1)) (by rw [xri_row rfl rfl]; show (0 : Int) ≤ _ ∧ _ ≤ (255 : Int); omega)) (RH.o (RH.o hH_M (by decide) (by decide) (by decide)) (by decide) (by decide) (by decide)) (RF.o (RF.o hS_M (by decide) (by decide)) (by decide) (by decide))  (fun a i f598 f599 => ((ju_c _ _ f599).trans ((ju_c _ _ f599).trans (hF_M a i f598 f599)))) (fun i g1 => ((ju_c _ _ (by decide)).trans ((ju_c _ _ (by decide)).trans (hG_M i g1)))) (by omega) (by omega) (by omega) (by omega) (by omega) (by omega) (by omega) (by omega) ((((ju_c _ _ (by decide)).trans ((ju_c _ _ (by decide)).trans e5))).trans (by omega)) (by have hs : M0 638 f + flg6 M0 f = v51 := (by unfold flg6; rw [(show M0 638 (f) = v7 from (hF_M 638 (f) (nne rfl) (nne rfl)).symm.trans e7), (show M0 628 (f) = v8 from (hF_M 628 (f) (nne rfl) (nne rfl)).symm.trans e8), (show M0 632 (2 * f) = v32 from (hF_M 632 (2 * f) (nne rfl) (nne rfl)).symm.trans e32), (show M0 632 ((2 * f) + 1) = v44 from (hF_M 632 ((2 * f) + 1) (by decide) (by decide)).symm.trans e44), (show M0 634 ((2 * f) + 1) = v50 from (hF_M 634 ((2 * f) + 1) (by decide) (by decide)).symm.trans e50)]; (repeat' split) <;> omega); rw [hs, (show M0 629 f = v6 from (hF_M 629 f (nne rfl) (nne rfl)).symm.trans e6), jp1 (by omega), jp1 (by omega), hy2.1]; rfl) ⟨by rw [← hy2.2]; exact e5.symm, by rw [u6_1 ⟨by rw [(show M0 627 f = v2 from (hF_M 627 f (nne rfl) (nne rfl)).symm.trans e2)]; omega, by rw [(show M0 640 f = v4 from (hF_M 640 f (nne rfl) (nne rfl)).symm.trans e4)]; omega⟩]; decide⟩
                · have sx130 : (1 : Int) ≤ v50 := by omega
                  clear h130
                  refine jr.sipush rfl (by decide) ?_
                  refine jr.goto rfl rfl ?_
                  refine jr.ior rfl ?_
                  have b52 : j_or v49 128 = v49 + 128 ∧ 0 ≤ j_or v49 128 ∧ j_or v49 128 ≤ 255 := ⟨j_or_a 7 (by decide) (by omega) (by omega), by rw [j_or_a 7 (by decide) (by omega) (by omega)]; omega⟩
                  generalize j_or v49 128 = v52 at b52 ⊢
                  refine jr.iast (i := (v5 + 1)) (x := v52) rfl (nlt rfl) rfl (Nat.le_of_ble_eq_true rfl) (by omega) (by omega) ?_
                  refine jr.pick (ls := [_, _, _, _, _]) [0, 1, 2, 3, 4] rfl rfl ?_
                  exact r_export_L142_x q (nM - 1) (ih (nM - 1) (by omega)) (ju (ju M 599 v5 v6) 599 (v5 + 1) v52) ((2 * f) + 1) (2 * f) v5 f (RI.u (RI.u hI_M (a := 599) (i := v5) (by rw [xri_row rfl rfl]; show (0 : Int) ≤ _ ∧ _ ≤ (255 : Int); omega)) (a := 599) (i := (v5 + 1)) (by rw [xri_row rfl rfl]; show (0 : Int) ≤ _ ∧ _ ≤ (255 : Int); omega)) (RH.o (RH.o hH_M (by decide) (by decide) (by decide)) (by decide) (by decide) (by decide)) (RF.o (RF.o hS_M (by decide) (by decide)) (by decide) (by decide))  (fun a i f598 f599 => ((ju_c _ _ f599).trans ((ju_c _ _ f599).trans (hF_M a i f598 f599)))) (fun i g1 => ((ju_c _ _ (by decide)).trans ((ju_c _ _ (by decide)).trans (hG_M i g1)))) (by omega) (by omega) (by omega) (by omega) (by omega) (by omega) (by omega) (by omega) ((((ju_c _ _ (by decide)).trans ((ju_c _ _ (by decide)).trans e5))).trans (by omega)) (by have hs : M0 638 f + flg6 M0 f = v52 := (by unfold flg6; rw [(show M0 638 (f) = v7 from (hF_M 638 (f) (nne rfl) (nne rfl)).symm.trans e7), (show M0 628 (f) = v8 from (hF_M 628 (f) (nne rfl) (nne rfl)).symm.trans e8), (show M0 632 (2 * f) = v32 from (hF_M 632 (2 * f) (nne rfl) (nne rfl)).symm.trans e32), (show M0 632 ((2 * f) + 1) = v44 from (hF_M 632 ((2 * f) + 1) (by decide) (by decide)).symm.trans e44), (show M0 634 ((2 * f) + 1) = v50 from (hF_M 634 ((2 * f) + 1) (by decide) (by decide)).symm.trans e50)]; (repeat' split) <;> omega); rw [hs, (show M0 629 f = v6 from (hF_M 629 f (nne rfl) (nne rfl)).symm.trans e6), jp1 (by omega), jp1 (by omega), hy2.1]; rfl) ⟨by rw [← hy2.2]; exact e5.symm, by rw [u6_1 ⟨by rw [(show M0 627 f = v2 from (hF_M 627 f (nne rfl) (nne rfl)).symm.trans e2)]; omega, by rw [(show M0 640 f = v4 from (hF_M 640 f (nne rfl) (nne rfl)).symm.trans e4)]; omega⟩]; decide⟩
        · have sx29 : (0 : Int) ≤ v4 := by omega
          clear h29
          refine jr.goto rfl rfl ?_
          refine jr.iinc (ls' := [_, _]) rfl rfl (nlt rfl) rfl ?_
          refine jr.goto rfl rfl ?_
          obtain ⟨v53, e53⟩ : ∃ z, M 598 1 = z := ⟨_, rfl⟩
          have b53 : 0 ≤ v53 ∧ v53 ≤ 1600 := by rw [← e53]; exact hI_M 598 1 (Nat.le_of_ble_eq_true rfl)
          refine jr.pick (ls := [_, _]) [0, 1] rfl rfl ?_
          exact ih (nM - 1) (by omega) M (f + 1) hI_M hH_M hS_M  (fun a i f598 f599 => (hF_M a i f598 f599)) (fun i g1 => (hG_M i g1)) (by omega) (by omega) (by rw [e53]; omega) (by rw [exL_s (by omega), if_pos (u6_0 (fun u => by rw [(show M0 627 f = v2 from (hF_M 627 f (nne rfl) (nne rfl)).symm.trans e2), (show M0 640 f = v4 from (hF_M 640 f (nne rfl) (nne rfl)).symm.trans e4)] at u; omega))]; exact hy2) (by omega)
theorem r_export_x {A : Nat → Option (Nat × (Nat → Int32))} {Q : Option Value → jm → Prop} {M : jm} (hI_M : RI M) (hH_M : RH M) (hS_M : RF M) (q : ∀ (r : Int) (M' : jm), RI M' → RH M' → RF M' → 0 ≤ r ∧ r ≤ 1600 → (M' 599 = (exL (u6x M) (B6x M) (M 599) 24).1 ∧ M' 598 1 = (exL (u6x M) (B6x M) (M 599) 24).2 ∧ r = M' 598 1) → (∀ (a : Nat) (i : Int), a ≠ 598 → a ≠ 599 → M' a i = M a i) → (∀ (i : Int), i ≠ 1 → M' 598 i = M 598 i) → Q (some (.int (Int32.ofInt r))) M') : jc A 3 326 [.ref (598)] M Q := by
  refine jc_of (m := xm_326) rfl (Nat.le_of_ble_eq_true rfl) rfl ?_
  refine jr.aload_n rfl rfl ?_
  refine jr.iconst rfl ?_
  refine jr.putf (i := 1) (x := 0) rfl rfl (nlt rfl) rfl (nlt rfl) rfl rfl rfl rfl rfl ?_
  refine jr.iconst rfl ?_
  refine jr.istore_n (ls' := [_, _]) rfl (nlt rfl) rfl ?_
  refine jr.pick (ls := [_, _]) [0, 1] rfl rfl ?_
  exact r_export_L7_x q 24 (ju M 598 1 0) 0 (RI.u hI_M (a := 598) (i := 1) (show (0 : Int) ≤ _ ∧ _ ≤ (1600 : Int) from by omega)) (RH.o hH_M (by decide) (by decide) (by decide)) (RF.o hS_M (by decide) (by decide))  (fun a i f598 f599 => ((ju_c _ _ f598).trans rfl)) (fun i g1 => ((ju_i _ _ g1).trans rfl)) (by omega) (by rw [(ju_same _ _ _ _)]; omega) (by rw [(ju_same _ _ _ _)]; omega) ⟨funext (fun i => ju_c _ _ (by decide)), ju_same _ _ _ _⟩ (by omega)
end
section
/-! ===== the table: rows read ===== -/
noncomputable def tHl (f : Int → Int) (y s : Int) : Int := if s = 0 then f (y + 1) / 32 % 2 else f (y + 1) / 64 % 2
noncomputable def tLa (f : Int → Int) (y s : Int) : Int := if tHl f y s = 0 then 0 else j_w (nbs f (y + 26 + 4 * s) 4)
noncomputable def tAd (f : Int → Int) (y s : Int) : Int := jl_w (nbs f (y + 10 + 8 * s) 8)
noncomputable def tPt (f : Int → Int) (y s : Int) : Int := tw f (y + 2 + 2 * s)
noncomputable def tWn (f : Int → Int) (y s : Int) : Int := tw f (y + 6 + 2 * s)
noncomputable def tPk (f : Int → Int) (y s : Int) : Int := if s = 0 then nbs f (y + 38) 4 else 0
noncomputable def tBy (f : Int → Int) (y s : Int) : Int := if s = 0 then nbs f (y + 42) 4 else 0
noncomputable def stOK (n s : Int) : Prop := (n = 1 ∧ s = 0) ∨ (n = 6 ∧ 1 ≤ s ∧ s ≤ 10) ∨ (n = 17 ∧ s ≤ 1)
noncomputable def adOK (f : Int → Int) (y : Int) : Prop := f (y + 1) / 16 % 2 = 1 ∨ ((0 ≤ tAd f y 0 ∧ tAd f y 0 ≤ 4294967295) ∧ (0 ≤ tAd f y 1 ∧ tAd f y 1 ≤ 4294967295))
/-- a row that is right by itself -/
noncomputable def rGood (f : Int → Int) (y : Int) : Prop := tw f (y + 46) = tn (sb f y 46) ∧ stOK (f y) (f (y + 1) % 16) ∧ adOK f y ∧ (1 ≤ nbs f (y + 34) 4 ∧ nbs f (y + 34) 4 ≤ 200)
/-- rows that tell the same ends -/
noncomputable def rLike (f : Int → Int) (a b : Int) : Prop := (f a = f b ∧ f (a + 1) / 16 % 2 = f (b + 1) / 16 % 2) ∧ (((tPt f a 0 = tPt f b 0 ∧ tPt f a 1 = tPt f b 1) ∧ tAd f a 0 = tAd f b 0 ∧ tAd f a 1 = tAd f b 1) ∨ ((tPt f a 0 = tPt f b 1 ∧ tPt f a 1 = tPt f b 0) ∧ tAd f a 0 = tAd f b 1 ∧ tAd f a 1 = tAd f b 0))
noncomputable def okR (f : Int → Int) (L j : Int) : Prop := (48 * j + 48 ≤ L ∧ j < 24) ∧ rGood f (48 * j) ∧ ∀ k : Int, 0 ≤ k → k < j → ¬ rLike f (48 * k) (48 * j)
/-- what restore answers -/
noncomputable def RTR (f : Int → Int) (L r : Int) : Prop := (∃ j : Int, (0 ≤ j ∧ j < (L + 47) / 48) ∧ (∀ k : Int, 0 ≤ k → k < j → okR f L k) ∧ ¬ okR f L j ∧ r = -10 - j) ∨ ((∀ k : Int, 0 ≤ k → k < (L + 47) / 48 → okR f L k) ∧ r = (L + 47) / 48)
theorem RTR.u {f : Int → Int} {L r r2 : Int} (h : RTR f L r) (h2 : RTR f L r2) : r = r2 := by
  rcases h with ⟨j, a1, a2, a3, a4⟩ | ⟨a2, a4⟩ <;> rcases h2 with ⟨i, b1, b2, b3, b4⟩ | ⟨b2, b4⟩
  · rcases (show j < i ∨ j = i ∨ i < j by omega) with q | q | q
    · exact absurd (b2 j a1.1 q) a3
    · omega
    · exact absurd (a2 i b1.1 q) b3
  · exact absurd (b2 j a1.1 a1.2) a3
  · exact absurd (a2 i b1.1 b1.2) b3
  · omega
theorem jbx0 : ∀ n : Nat, n < 256 → j_and (n : Int) 32 = ((n / 32 % 2 * 32 : Nat) : Int) ∧ j_and (n : Int) 64 = ((n / 64 % 2 * 64 : Nat) : Int) ∧ j_and (n : Int) 128 = ((n / 128 % 2 * 128 : Nat) : Int) := by decide +kernel
theorem jbx {x : Int} (h : 0 ≤ x ∧ x ≤ 255) : j_and x 32 = x / 32 % 2 * 32 ∧ j_and x 64 = x / 64 % 2 * 64 ∧ j_and x 128 = x / 128 % 2 * 128 := by
  obtain ⟨n, rfl⟩ := Int.eq_ofNat_of_zero_le h.1
  have q := jbx0 n (by omega)
  refine ⟨?_, ?_, ?_⟩
  · rw [q.1]; omega
  · rw [q.2.1]; omega
  · rw [q.2.2]; omega
theorem hl_and {x i : Int} (h : 0 ≤ x ∧ x ≤ 255) (hi : 0 ≤ i ∧ i ≤ 1) : j_and x (j_shl 32 i) = (if i = 0 then x / 32 % 2 * 32 else x / 64 % 2 * 64) ∧ 0 ≤ j_and x (j_shl 32 i) ∧ j_and x (j_shl 32 i) ≤ 64 := by
  rcases (show i = 0 ∨ i = 1 by omega) with rfl | rfl
  · rw [show j_shl 32 0 = 32 by decide, (jbx h).1, if_pos rfl]
    omega
  · rw [show j_shl 32 1 = 64 by decide, (jbx h).2.1, if_neg (by decide)]
    omega
theorem jl_ushr_32 (x : Int) : jl_ushr x 32 = x % 18446744073709551616 / 4294967296 := by
  unfold jl_ushr
  have hN : ((Int64.ofInt x).toUInt64 >>> ((Int32.ofInt ((32 : Nat) : Int)).toInt64.toUInt64 &&& Int64.toUInt64 63)).toInt64.toBitVec.toNat = (x % 18446744073709551616).toNat / 2 ^ 32 := by
    show ((Int64.ofInt x).toUInt64 >>> ((Int32.ofInt ((32 : Nat) : Int)).toInt64.toUInt64 &&& Int64.toUInt64 63)).toBitVec.toNat = _
    rw [UInt64.toBitVec_shiftRight]
    show ((Int64.ofInt x).toBitVec >>> ((((Int32.ofInt ((32 : Nat) : Int)).toInt64.toUInt64 &&& Int64.toUInt64 63).toBitVec % 64))).toNat = _
    rw [BitVec.ushiftRight_eq', BitVec.toNat_ushiftRight, jbl_su 32 (by decide), jbl_tn, Nat.shiftRight_eq_div_pow]
  have e : (Int32.ofInt 32) = (Int32.ofInt ((32 : Nat) : Int)) := rfl
  rw [e, jbl_ti, hN]
  split <;> omega
theorem tp1 {f : Int → Int} {y r : Int} (hb : ∀ i : Int, 0 ≤ f i ∧ f i ≤ 255) (h : r = jl_w (nbs f y (1 : Int).toNat)) : r = f y ∧ 0 ≤ r ∧ r ≤ 255 := by
  have b := hb y
  rw [show (1 : Int).toNat = 1 from rfl, nbs_1, jl_w_id (by omega)] at h
  omega
theorem tp2 {f : Int → Int} {y r : Int} (hb : ∀ i : Int, 0 ≤ f i ∧ f i ≤ 255) (h : r = jl_w (nbs f y (2 : Int).toNat)) : r = tw f y ∧ 0 ≤ r ∧ r ≤ 65535 := by
  have b := hb y
  have b2 := hb (y + 1)
  rw [show (2 : Int).toNat = 2 from rfl, nbs_2, jl_w_id (by omega)] at h
  unfold tw
  omega
theorem tp4 {f : Int → Int} {y r : Int} (hb : ∀ i : Int, 0 ≤ f i ∧ f i ≤ 255) (h : r = jl_w (nbs f y (4 : Int).toNat)) : r = nbs f y 4 ∧ 0 ≤ r ∧ r ≤ 4294967295 := by
  have b := nbs_r4 (f := f) (y := y) (n := 4) (by decide) (fun i _ _ => hb i)
  rw [show (4 : Int).toNat = 4 from rfl, jl_w_id (by omega)] at h
  omega
theorem k1_0 : ∀ a, a < 598 → kd a = 1 → 18 ≤ a := by decide +kernel
theorem k1_18 {t : Nat} (h : kd t = 1) : 18 ≤ t := k1_0 t (kd_lt (by rw [h]; decide)) h
/-! the class: a row that is being read -/
noncomputable def RR0 (M : jm) (t : Nat) (f : Int → Int) (y : Int) : Prop := M t 0 = 1 ∧ M t 1 = f (y + 1) / 16 % 2 ∧ M t 2 = f y ∧ M t 5 = f (y + 1) % 16 ∧ M t 13 = -1 ∧ M t 15 = -1
noncomputable def rS1 (M : jm) (t : Nat) (f : Int → Int) (y s : Int) : Prop := M (t + 2) s = tPt f y s ∧ M (t + 5) s = tWn f y s ∧ M (t + 1) s = tAd f y s ∧ M (t + 4) s = tHl f y s
noncomputable def rSA (M : jm) (t : Nat) (f : Int → Int) (y s : Int) : Prop := rS1 M t f y s ∧ M (t + 3) s = tLa f y s ∧ M (t + 6) s = tPk f y s ∧ M (t + 7) s = tBy f y s
noncomputable def fr7 (T M : jm) (t : Nat) : Prop := ∀ (b : Nat) (k : Int), (b < t ∨ t + 7 < b) → M b k = T b k
noncomputable def RWS (T M : jm) (t : Nat) (f : Int → Int) (y i : Int) : Prop := M 1 = f ∧ RR0 M t f y ∧ (∀ s : Int, 0 ≤ s → s < i → rSA M t f y s) ∧ fr7 T M t
noncomputable def RWB (T M : jm) (t : Nat) (f : Int → Int) (y i : Int) : Prop := RWS T M t f y i ∧ rS1 M t f y i
noncomputable def RWC (T M : jm) (t : Nat) (f : Int → Int) (y i : Int) : Prop := RWB T M t f y i ∧ M (t + 3) i = tLa f y i
noncomputable def RWD (T M : jm) (t : Nat) (f : Int → Int) (y i : Int) : Prop := RWC T M t f y i ∧ M (t + 6) i = tPk f y i
noncomputable def RWE (T M : jm) (t : Nat) (f : Int → Int) (y : Int) : Prop := RWS T M t f y 2 ∧ M t 12 = f (y + 1) / 128 % 2
/-- a flow as its row tells it -/
noncomputable def RRD (M : jm) (t : Nat) (f : Int → Int) (y Z : Int) : Prop := RR0 M t f y ∧ (∀ s : Int, 0 ≤ s → s < 2 → rSA M t f y s) ∧ M t 12 = f (y + 1) / 128 % 2 ∧ M t 6 = Z + (if nbs f (y + 34) 4 ≤ 200 then nbs f (y + 34) 4 else 200)
theorem fr7.u {T M : jm} {t a : Nat} {i v : Int} (h : fr7 T M t) (ha : t ≤ a ∧ a ≤ t + 7) : fr7 T (ju M a i v) t := fun b k hb => by
  rw [ju_c _ _ (by omega)]
  exact h b k hb
theorem RWS.z {T M : jm} {t : Nat} {y a b c : Int} (h : T = M) (ht : 18 ≤ t) (ha : a = M 1 y) (hb : b = M 1 (y + 1) / 16 % 2) (hc : c = M 1 (y + 1) % 16) : RWS T (ju (ju (ju (ju (ju (ju M t 2 a) t 1 b) t 5 c) t 0 1) t 13 (-1)) t 15 (-1)) t (T 1) y 0 := by
  subst h
  refine ⟨?_, ⟨?_, ?_, ?_, ?_, ?_, ?_⟩, fun s s0 s1 => absurd s1 (by omega), ?_⟩
  · funext k
    simp only [ju_c _ _ (show (1 : Nat) ≠ t by omega)]
  · rw [ju_i _ _ (zne (by decide)), ju_i _ _ (zne (by decide)), ju_same]
  · rw [ju_i _ _ (zne (by decide)), ju_i _ _ (zne (by decide)), ju_i _ _ (zne (by decide)), ju_i _ _ (zne (by decide)), ju_same, hb]
  · rw [ju_i _ _ (zne (by decide)), ju_i _ _ (zne (by decide)), ju_i _ _ (zne (by decide)), ju_i _ _ (zne (by decide)), ju_i _ _ (zne (by decide)), ju_same, ha]
  · rw [ju_i _ _ (zne (by decide)), ju_i _ _ (zne (by decide)), ju_i _ _ (zne (by decide)), ju_same, hc]
  · rw [ju_i _ _ (zne (by decide)), ju_same]
  · rw [ju_same]
  · have q : fr7 T T t := fun _ _ _ => rfl
    exact fr7.u (fr7.u (fr7.u (fr7.u (fr7.u (fr7.u q (by omega)) (by omega)) (by omega)) (by omega)) (by omega)) (by omega)
theorem rSA.u {M : jm} {t a : Nat} {f : Int → Int} {y s i v : Int} (h : rSA M t f y s) (hi : s ≠ i) : rSA (ju M a i v) t f y s := by
  unfold rSA rS1 at h ⊢
  simp only [ju_i _ _ hi]
  exact h
theorem RR0.u {M : jm} {t a : Nat} {f : Int → Int} {y i v : Int} (h : RR0 M t f y) (ha : t ≠ a) : RR0 (ju M a i v) t f y := by
  unfold RR0 at h ⊢
  simp only [ju_c _ _ ha]
  exact h
theorem RWS.u {T M : jm} {t a : Nat} {f : Int → Int} {y i v : Int} (h : RWS T M t f y i) (ha : t < a ∧ a ≤ t + 7) (ht : 18 ≤ t) : RWS T (ju M a i v) t f y i := by
  refine ⟨?_, h.2.1.u (by omega), fun s s0 s1 => (h.2.2.1 s s0 s1).u (by omega), h.2.2.2.u (by omega)⟩
  rw [ju1_row (show (1 : Nat) ≠ a by omega)]
  exact h.1
theorem RWS.b {T M : jm} {t : Nat} {f : Int → Int} {y i p w a c : Int} (h : RWS T M t f y i) (ht : 18 ≤ t) (hp : p = tPt f y i) (hw : w = tWn f y i) (ha : a = tAd f y i) (hc : c = tHl f y i) : RWB T (ju (ju (ju (ju M (t + 2) i p) (t + 5) i w) (t + 1) i a) (t + 4) i c) t f y i := by
  refine ⟨(((h.u (by omega) ht).u (by omega) ht).u (by omega) ht).u (by omega) ht, ?_, ?_, ?_, ?_⟩
  · rw [ju_c _ _ (by omega), ju_c _ _ (by omega), ju_c _ _ (by omega), ju_same]; exact hp
  · rw [ju_c _ _ (by omega), ju_c _ _ (by omega), ju_same]; exact hw
  · rw [ju_c _ _ (by omega), ju_same]; exact ha
  · rw [ju_same]; exact hc
theorem rS1.u {M : jm} {t a : Nat} {f : Int → Int} {y s i v : Int} (h : rS1 M t f y s) (ha : t + 2 ≠ a ∧ t + 5 ≠ a ∧ t + 1 ≠ a ∧ t + 4 ≠ a) : rS1 (ju M a i v) t f y s := by
  unfold rS1 at h ⊢
  rw [ju_c _ _ ha.1, ju_c _ _ ha.2.1, ju_c _ _ ha.2.2.1, ju_c _ _ ha.2.2.2]
  exact h
theorem RWB.c {T M : jm} {t : Nat} {f : Int → Int} {y i l : Int} (h : RWB T M t f y i) (ht : 18 ≤ t) (hl : l = tLa f y i) : RWC T (ju M (t + 3) i l) t f y i := ⟨⟨h.1.u (by omega) ht, h.2.u (by omega)⟩, (ju_same _ _ _ _).trans hl⟩
theorem RWC.d {T M : jm} {t : Nat} {f : Int → Int} {y i l : Int} (h : RWC T M t f y i) (ht : 18 ≤ t) (hl : l = tPk f y i) : RWD T (ju M (t + 6) i l) t f y i := ⟨⟨⟨h.1.1.u (by omega) ht, h.1.2.u (by omega)⟩, (ju_c _ _ (by omega)).trans h.2⟩, (ju_same _ _ _ _).trans hl⟩
theorem RWD.e {T M : jm} {t : Nat} {f : Int → Int} {y i l : Int} (h : RWD T M t f y i) (ht : 18 ≤ t) (hl : l = tBy f y i) : RWS T (ju M (t + 7) i l) t f y (i + 1) := by
  have q := h.1.1.1.u (a := t + 7) (v := l) (by omega) ht
  refine ⟨q.1, q.2.1, fun s s0 s1 => ?_, q.2.2.2⟩
  by_cases e : s = i
  · subst e
    exact ⟨h.1.1.2.u (by omega), (ju_c _ _ (by omega)).trans h.1.2, (ju_c _ _ (by omega)).trans h.2, (ju_same _ _ _ _).trans hl⟩
  · exact q.2.2.1 s s0 (by omega)
theorem RWS.e {T M : jm} {t : Nat} {f : Int → Int} {y c : Int} (h : RWS T M t f y 2) (ht : 18 ≤ t) (hc : c = f (y + 1) / 128 % 2) : RWE T (ju M t 12 c) t f y := by
  refine ⟨⟨?_, ?_, fun s s0 s1 => ?_, h.2.2.2.u (by omega)⟩, (ju_same _ _ _ _).trans hc⟩
  · rw [ju1_row (show (1 : Nat) ≠ t by omega)]; exact h.1
  · have q := h.2.1
    unfold RR0 at q ⊢
    rw [ju_i _ _ (zne (by decide)), ju_i _ _ (zne (by decide)), ju_i _ _ (zne (by decide)), ju_i _ _ (zne (by decide)), ju_i _ _ (zne (by decide)), ju_i _ _ (zne (by decide))]
    exact q
  · have q := h.2.2.1 s s0 s1
    unfold rSA rS1 at q ⊢
    simp only [ju_c _ _ (show t + 1 ≠ t by omega), ju_c _ _ (show t + 2 ≠ t by omega), ju_c _ _ (show t + 3 ≠ t by omega), ju_c _ _ (show t + 4 ≠ t by omega), ju_c _ _ (show t + 5 ≠ t by omega), ju_c _ _ (show t + 6 ≠ t by omega), ju_c _ _ (show t + 7 ≠ t by omega)]
    exact q
theorem RWE.d {T M : jm} {t : Nat} {f : Int → Int} {y v Z : Int} (h : RWE T M t f y) (ht : 18 ≤ t) (hv : v = Z + (if nbs f (y + 34) 4 ≤ 200 then nbs f (y + 34) 4 else 200)) : RRD (ju M t 6 v) t f y Z ∧ fr7 T (ju M t 6 v) t ∧ ju M t 6 v 1 = f := by
  refine ⟨⟨?_, fun s s0 s1 => ?_, ?_, (ju_same _ _ _ _).trans hv⟩, h.1.2.2.2.u (by omega), ?_⟩
  · have q := h.1.2.1
    unfold RR0 at q ⊢
    rw [ju_i _ _ (zne (by decide)), ju_i _ _ (zne (by decide)), ju_i _ _ (zne (by decide)), ju_i _ _ (zne (by decide)), ju_i _ _ (zne (by decide)), ju_i _ _ (zne (by decide))]
    exact q
  · have q := h.1.2.2.1 s s0 s1
    unfold rSA rS1 at q ⊢
    simp only [ju_c _ _ (show t + 1 ≠ t by omega), ju_c _ _ (show t + 2 ≠ t by omega), ju_c _ _ (show t + 3 ≠ t by omega), ju_c _ _ (show t + 4 ≠ t by omega), ju_c _ _ (show t + 5 ≠ t by omega), ju_c _ _ (show t + 6 ≠ t by omega), ju_c _ _ (show t + 7 ≠ t by omega)]
    exact q
  · rw [ju_i _ _ (zne (by decide))]; exact h.2
  · rw [ju1_row (show (1 : Nat) ≠ t by omega)]; exact h.1.1
theorem RRD.fr {T M : jm} {t x : Nat} {f : Int → Int} {y Z : Int} (h : RRD T t f y Z) (g : fr7 T M x) (hx : t + 7 < x ∨ x + 7 < t) : RRD M t f y Z := by
  unfold RRD RR0 rSA rS1 at h ⊢
  simp only [g t _ (by omega), g (t + 1) _ (by omega), g (t + 2) _ (by omega), g (t + 3) _ (by omega), g (t + 4) _ (by omega), g (t + 5) _ (by omega), g (t + 6) _ (by omega), g (t + 7) _ (by omega)]
  exact h
theorem RRD.like {M : jm} {t x : Nat} {f : Int → Int} {a b Z Z2 : Int} (h : RRD M t f a Z) (h2 : RRD M x f b Z2) : sdF M t x ≠ -1 ↔ rLike f a b := by
  obtain ⟨⟨g0, g1, g2, g3, g4, g5⟩, gs, -, -⟩ := h
  obtain ⟨⟨k0, k1, k2, k3, k4, k5⟩, ks, -, -⟩ := h2
  have ga := gs 0 (by decide) (by decide)
  have gb := gs 1 (by decide) (by decide)
  have ka := ks 0 (by decide) (by decide)
  have kb := ks 1 (by decide) (by decide)
  unfold sdF rLike
  rw [g0, g1, g2, g4, k1, k2, ga.1.1, ga.1.2.2.1, gb.1.1, gb.1.2.2.1, ka.1.1, ka.1.2.2.1, kb.1.1, kb.1.2.2.1]
  constructor
  · intro u
    split at u
    · omega
    · rename_i u0
      split at u
      · rename_i u1
        exact ⟨by omega, Or.inl ⟨⟨u1.1.2.symm, u1.2.2.symm⟩, u1.1.1.symm, u1.2.1.symm⟩⟩
      · split at u
        · rename_i u1
          refine ⟨by omega, Or.inr ?_⟩
          rcases u1.1 with u2 | u2
          · exact ⟨⟨u2.2.2.symm, u1.2.2.symm⟩, u2.2.1.symm, u1.2.1.symm⟩
          · exact absurd rfl u2.1
        · omega
  · rintro ⟨⟨e1, e2⟩, e3⟩
    rw [if_neg (by omega)]
    rcases e3 with e3 | e3
    · rw [if_pos ⟨⟨e3.2.1.symm, e3.1.1.symm⟩, e3.2.2.symm, e3.1.2.symm⟩]
      decide
    · split
      · decide
      · rw [if_pos ⟨Or.inl ⟨rfl, e3.2.1.symm, e3.1.1.symm⟩, e3.2.2.symm, e3.1.2.symm⟩]
        decide
end
