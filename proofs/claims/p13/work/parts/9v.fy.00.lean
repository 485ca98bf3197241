section
/-! ===== the reference: export ===== -/
theorem j_or_a {x y : Int} (k : Nat) (hk : k < 31) (hx : 0 ≤ x ∧ x < ((2 ^ k : Nat) : Int)) (hy : y = ((2 ^ k : Nat) : Int) ∨ y = 0) : j_or x y = x + y := by
  obtain ⟨n, rfl⟩ := Int.eq_ofNat_of_zero_le hx.1
  have hp : 2 ^ k ≤ 2 ^ 30 := Nat.pow_le_pow_right (by decide) (by omega)
  have hn : n < 2 ^ k := by omega
  rcases hy with rfl | rfl
  · unfold j_or
    have hN : (Int32.ofInt (n : Int) ||| Int32.ofInt ((2 ^ k : Nat) : Int)).toBitVec.toNat = n + 2 ^ k := by
      rw [Int32.toBitVec_or, BitVec.toNat_or, jb_tn, jb_tn]
      rw [show ((n : Int) % 4294967296).toNat = n by omega, show (((2 ^ k : Nat) : Int) % 4294967296).toNat = 2 ^ k * 1 by omega]
      rw [Nat.or_comm, ← Nat.two_pow_add_eq_or_of_lt hn]
      omega
    rw [jb_ti, hN]
    split <;> omega
  · unfold j_or
    have hN : (Int32.ofInt (n : Int) ||| Int32.ofInt 0).toBitVec.toNat = n := by
      rw [Int32.toBitVec_or, BitVec.toNat_or, jb_tn, jb_tn]
      rw [show ((n : Int) % 4294967296).toNat = n by omega, show ((0 : Int) % 4294967296).toNat = 0 by omega]
      exact Nat.or_zero n
    rw [jb_ti, hN]
    split <;> omega
noncomputable def flg6 (M : jm) (i : Int) : Int := (if M 628 i = 0 then 0 else 16) + (if M 632 (2 * i) = 0 then 0 else 32) + (if M 632 (2 * i + 1) = 0 then 0 else 64) + (if M 634 (2 * i + 1) = 0 then 0 else 128)
noncomputable def u6x (M : jm) (i : Int) : Int := if M 627 i ≠ 0 ∧ M 640 i = -1 then 1 else 0
noncomputable def l6x (M : jm) (j : Int) : Int := if M 632 j = 0 then 0 else M 633 j
/-- the row that a flow of the reference tells -/
noncomputable def B6x (M : jm) (i : Int) : Int → Int := xrB (M 629 i) (M 638 i + flg6 M i) (M 631 (2 * i)) (M 631 (2 * i + 1)) (M 635 (2 * i)) (M 635 (2 * i + 1)) (M 630 (2 * i)) (M 630 (2 * i + 1)) (l6x M (2 * i)) (l6x M (2 * i + 1)) (j_w (M 639 i - M 598 2)) (jl_w (M 636 (2 * i) + M 636 (2 * i + 1))) (jl_w (M 637 (2 * i) + M 637 (2 * i + 1)))
theorem u6_0 {M : jm} {i : Int} (h : ¬ (M 627 i ≠ 0 ∧ M 640 i = -1)) : u6x M i = 0 := if_neg h
theorem u6_1 {M : jm} {i : Int} (h : M 627 i ≠ 0 ∧ M 640 i = -1) : u6x M i = 1 := if_pos h
theorem ref_fin {f g gs : Int → Int} {t n s p0 p1 w0 w1 a0 a1 l0 l1 u pk by_ r : Int} (h1 : gs = lyE (ptn (ptn (ry1 (ly0 f t n s) t p0 p1 w0 w1 a0 a1) (t + 26) 4 l0) (t + 30) 4 l1) t u pk by_) (h2 : g = ptn gs (t + 46) 2 r) (h3 : r = tn (sb gs t (t + 46 - t).toNat)) : g = rwl f t (xrB n s p0 p1 w0 w1 a0 a1 l0 l1 u pk by_) := by
  rw [ryx] at h1
  rw [h2, h3, h1, show (t + 46 - t).toNat = 46 by omega]
  rfl
theorem r_sumOfTape_L5_x {A : Nat → Option (Nat × (Nat → Int32))} {Q : Option Value → jm → Prop} {a0 : Int} {t0 : Int} {M : jm} (hI_M : RI M) (hH_M : RH M) (hS_M : RF M) (q : ∀ (r : Int), 0 ≤ r ∧ r ≤ 65535 → r = tn (sb (M 599) a0 (t0 - a0).toNat) → Q (some (.int (Int32.ofInt r))) M) : ∀ (nM : Nat) (k : Int) (s : Int) (t : Int) (a : Int), 0 ≤ k ∧ k ≤ 1600 → 0 ≤ s ∧ s ≤ 110000000 → 0 ≤ t ∧ t ≤ 1600 → 0 ≤ a ∧ a ≤ 1600 → ((t - k) % 2 = 0 ∧ (k - a) % 2 = 0) → s = sb (M 599) a (k - a).toNat → a ≤ k ∧ k ≤ t → s ≤ 65535 * (k - a) → a = a0 → t = t0 → 1600 - k ≤ nM → jr A 1 xm_323 5 [(5, .int (Int32.ofInt (k))), (3, .long (Int64.ofInt (s))), (2, .int (Int32.ofInt (t))), (1, .int (Int32.ofInt (a))), (0, .ref (598))] [] M Q := by
  intro nM
  induction nM using Nat.strongRecOn with
  | ind nM ih =>
    intro k s t a h_k h_s h_t h_a hy0 hy1 hy2 hy3 hy4 hy5 hm
    subst hy4
    subst hy5
    refine jr.iload rfl rfl ?_
    refine jr.iload_n rfl rfl ?_
    refine jr.icmp_ge rfl rfl (by omega) (by omega) (fun h8 => ?_) (fun h8 => ?_)
    · refine jr.lload_n rfl rfl ?_
      refine jr_s rfl rfl (Or.inl rfl) ⟨Nat.le_of_ble_eq_true rfl, Nat.le_of_ble_eq_true rfl⟩ rfl rfl (jc.deep (r_turned_x hI_M hH_M hS_M  (by omega)  (fun r1 z1 w1_0 => ?_)) (by decide))
      exact jr.ireturn rfl rfl rfl (q _ (by omega) (by rw [← show k = t from by omega, ← hy1]; exact w1_0))
    · refine jr.lload_n rfl rfl ?_
      refine jr.aload_n rfl rfl ?_
      refine jr.getf (i := 0) (v := .ref 599) rfl rfl (by decide) rfl (by decide) rfl rfl rfl rfl ?_
      refine jr.iload rfl rfl ?_
      obtain ⟨v2, e2⟩ : ∃ z, M 599 k = z := ⟨_, rfl⟩
      have b2 : 0 ≤ v2 ∧ v2 ≤ 255 := by rw [← e2]; exact (by have q := hI_M 599 k (by decide); rw [xri_row rfl rfl] at q; exact q)
      refine jr.iald (i := k) (x := v2) rfl (by decide) rfl (by decide) (by omega) (by omega) e2 ?_
      refine jr.bipush rfl (by decide) ?_
      refine jr.ishl rfl ?_
      refine jr.aload_n rfl rfl ?_
      refine jr.getf (i := 0) (v := .ref 599) rfl rfl (by decide) rfl (by decide) rfl rfl rfl rfl ?_
      refine jr.iload rfl rfl ?_
      refine jr.iconst rfl ?_
      refine jr.iadd rfl ?_
      obtain ⟨v3, e3⟩ : ∃ z, M 599 (k + 1) = z := ⟨_, rfl⟩
      have b3 : 0 ≤ v3 ∧ v3 ≤ 255 := by rw [← e3]; exact (by have q := hI_M 599 (k + 1) (by decide); rw [xri_row rfl rfl] at q; exact q)
      refine jr.iald (i := (k + 1)) (x := v3) rfl (by decide) rfl (by decide) (by omega) (by omega) e3 ?_
      refine jr.ior rfl ?_
      have b4 : j_or (j_shl v2 8) v3 = v2 * 256 + v3 := j_sho (by omega) (by omega)
      generalize j_or (j_shl v2 8) v3 = v4 at b4 ⊢
      refine jr.i2l rfl (by omega) ?_
      refine jr.ladd rfl ?_
      refine jr.lstore_n (ls' := [_, _, _, _, _]) rfl (by decide) rfl ?_
      refine jr.iinc (ls' := [_, _, _, _, _]) rfl rfl (by decide) rfl ?_
      refine jr.goto rfl rfl ?_
      refine jr.pick (ls := [_, _, _, _, _]) [0, 1, 2, 3, 4] rfl rfl ?_
      exact ih (nM - 1) (by omega) (k + 2) (s + v4) t a (by omega) (by omega) (by omega) (by omega) (by omega) (by have hs := sb_s (f := M 599) (a := a) (i := k + 1) (by omega); have hs2 := sb_s (f := M 599) (a := a) (i := k) (by omega); rw [if_neg (by omega)] at hs; rw [if_pos (by omega)] at hs2; rw [show k + 2 = k + 1 + 1 from by omega, hs, hs2, ← hy1]; omega) (by omega) (by omega) (by omega) (by omega) (by omega)
theorem r_sumOfTape_x {A : Nat → Option (Nat × (Nat → Int32))} {Q : Option Value → jm → Prop} {M : jm} (hI_M : RI M) (hH_M : RH M) (hS_M : RF M) {a : Int} (h_a : 0 ≤ a ∧ a ≤ 1600) {t : Int} (h_t : 0 ≤ t ∧ t ≤ 1600) (p0 : ((t - a) % 2 = 0 ∧ a ≤ t)) (q : ∀ (r : Int), 0 ≤ r ∧ r ≤ 65535 → r = tn (sb (M 599) a (t - a).toNat) → Q (some (.int (Int32.ofInt r))) M) : jc A 2 323 [.ref (598), .int (Int32.ofInt (a)), .int (Int32.ofInt (t))] M Q := by
  refine jc_of (m := xm_323) rfl (Nat.le_of_ble_eq_true rfl) rfl ?_
  refine jr.lconst (x := 0) rfl (by decide) ?_
  refine jr.lstore_n (ls' := [_, _, _, _]) rfl (by decide) rfl ?_
  refine jr.iload_n rfl rfl ?_
  refine jr.istore (ls' := [_, _, _, _, _]) rfl (by decide) rfl ?_
  refine jr.pick (ls := [_, _, _, _, _]) [0, 1, 4, 3, 2] rfl rfl ?_
  exact r_sumOfTape_L5_x hI_M hH_M hS_M q 1600 a 0 t a (by omega) (by omega) (by omega) (by omega) (by omega) (sb_0 _ _).symm (by omega) (by omega) (by omega) (by omega) (by omega)
end
