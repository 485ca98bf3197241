section
theorem r_added_L6_x {A : Nat → Option (Nat × (Nat → Int32))} {Q : Option Value → jm → Prop} {x0 : Int} {u0 : Int} {t0 : Int} {b0 : Int} {M : jm} (hI_M : RI M) (hH_M : RH M) (hS_M : RF M) (q : ∀ (r : Int), 0 ≤ r ∧ r ≤ 30000000 → r = sb (fz (rf M x0) b0) u0 (t0 - u0).toNat → Q (some (.long (Int64.ofInt r))) M) : ∀ (nM : Nat) (k : Int) (s : Int) (b : Int) (t : Int) (u : Int) (x : Int), 0 ≤ k ∧ k ≤ 400 → 0 ≤ s ∧ s ≤ 30000000 → (-2000) ≤ b ∧ b ≤ 2000 → 0 ≤ t ∧ t ≤ 400 → 0 ≤ u ∧ u ≤ 400 → 0 ≤ x ∧ x ≤ 23 → s = sb (fz (rf M x) b) u (k - u).toNat → u ≤ k ∧ k ≤ t → s ≤ 65280 * (k - u) → x = x0 → u = u0 → t = t0 → b = b0 → 400 - k ≤ nM → jr A 1 xm_279 6 [(7, .int (Int32.ofInt (k))), (5, .long (Int64.ofInt (s))), (4, .int (Int32.ofInt (b))), (3, .int (Int32.ofInt (t))), (2, .int (Int32.ofInt (u))), (1, .int (Int32.ofInt (x))), (0, .ref (598))] [] M Q := by
  intro nM
  induction nM using Nat.strongRecOn with
  | ind nM ih =>
    intro k s b t u x h_k h_s h_b h_t h_u h_x hy0 hy1 hy2 hy3 hy4 hy5 hy6 hm
    subst hy3
    subst hy4
    subst hy5
    subst hy6
    refine jr.iload rfl rfl ?_
    refine jr.iload_n rfl rfl ?_
    refine jr.icmp_ge rfl rfl (by omega) (by omega) (fun h9 => ?_) (fun h9 => ?_)
    · refine jr.lload rfl rfl ?_
      exact jr.lreturn rfl rfl (q _ (by omega) (by rw [← show k = t from by omega]; exact hy0))
    · refine jr.iload rfl rfl ?_
      refine jr.iload rfl rfl ?_
      refine jr.icmp_eq rfl rfl (by omega) (by omega) (fun h16 => ?_) (fun h16 => ?_)
      · refine jr.iconst rfl ?_
        refine jr.goto rfl rfl ?_
        refine jr.istore (ls' := [_, _, _, _, _, _, _, _]) rfl (by decide) rfl ?_
        refine jr.lload rfl rfl ?_
        refine jr.iload rfl rfl ?_
        refine jr.iload_n rfl rfl ?_
        refine jr.isub rfl ?_
        refine jr.iconst rfl ?_
        refine jr.irem rfl (by decide) ?_
        have b1 : j_rem (k - u) 2 = (k - u) % 2 := j_rem_ex (by omega) (by omega)
        generalize j_rem (k - u) 2 = v1 at b1 ⊢
        refine jr.if_ne rfl rfl (by omega) (fun h49 => ?_) (fun h49 => ?_)
        · have sx49 : (1 : Int) ≤ v1 := by omega
          clear h49
          refine jr.iload rfl rfl ?_
          refine jr.i2l rfl (by omega) ?_
          refine jr.ladd rfl ?_
          refine jr.lstore (ls' := [_, _, _, _, _, _, _, _]) rfl (by decide) rfl ?_
          refine jr.iinc (ls' := [_, _, _, _, _, _, _, _]) rfl rfl (by decide) rfl ?_
          refine jr.goto rfl rfl ?_
          refine jr.pick (ls := [_, _, _, _, _, _, _]) [0, 1, 3, 4, 5, 6, 7] rfl rfl ?_
          exact ih (nM - 1) (by omega) (k + 1) (s + 0) b t u x (by omega) (by omega) (by omega) (by omega) (by omega) (by omega) (by rw [sb_s (by omega), ← hy0]; unfold fz; (try rw [rf_a]); (repeat' split) <;> omega) (by omega) (by omega) (by omega) (by omega) (by omega) (by omega) (by omega)
        · refine jr.iload rfl rfl ?_
          refine jr.bipush rfl (by decide) ?_
          refine jr.ishl rfl ?_
          have b2 : j_shl 0 8 = 0 * 256 := j_shl_ex 8 (by decide) (by omega) (by omega)
          generalize j_shl 0 8 = v2 at b2 ⊢
          refine jr.i2l rfl (by omega) ?_
          refine jr.goto rfl rfl ?_
          refine jr.ladd rfl ?_
          refine jr.lstore (ls' := [_, _, _, _, _, _, _, _]) rfl (by decide) rfl ?_
          refine jr.iinc (ls' := [_, _, _, _, _, _, _, _]) rfl rfl (by decide) rfl ?_
          refine jr.goto rfl rfl ?_
          refine jr.pick (ls := [_, _, _, _, _, _, _]) [0, 1, 3, 4, 5, 6, 7] rfl rfl ?_
          exact ih (nM - 1) (by omega) (k + 1) (s + v2) b t u x (by omega) (by omega) (by omega) (by omega) (by omega) (by omega) (by rw [sb_s (by omega), ← hy0]; unfold fz; (try rw [rf_a]); (repeat' split) <;> omega) (by omega) (by omega) (by omega) (by omega) (by omega) (by omega) (by omega)
      · refine jr.iload rfl rfl ?_
        refine jr.iload rfl rfl ?_
        refine jr.iconst rfl ?_
        refine jr.iadd rfl ?_
        refine jr.icmp_ne rfl rfl (by omega) (by omega) (fun h25 => ?_) (fun h25 => ?_)
        · refine jr.aload_n rfl rfl ?_
          refine jr.iload_n rfl rfl ?_
          refine jr.iload rfl rfl ?_
          refine jr_v rfl rfl (Or.inl rfl) rfl rfl (by decide) rfl ⟨rfl, Nat.le_of_ble_eq_true rfl, Nat.le_of_ble_eq_true rfl⟩ rfl (jc.deep (r_one hI_M hH_M hS_M (Kp.rfl _) (by omega) (by omega)  (fun r3 z3 w3_0 => ?_)) (by decide))
          refine jr.istore (ls' := [_, _, _, _, _, _, _, _]) rfl (by decide) rfl ?_
          refine jr.lload rfl rfl ?_
          refine jr.iload rfl rfl ?_
          refine jr.iload_n rfl rfl ?_
          refine jr.isub rfl ?_
          refine jr.iconst rfl ?_
          refine jr.irem rfl (by decide) ?_
          have b4 : j_rem (k - u) 2 = (k - u) % 2 := j_rem_ex (by omega) (by omega)
          generalize j_rem (k - u) 2 = v4 at b4 ⊢
          refine jr.if_ne rfl rfl (by omega) (fun h49 => ?_) (fun h49 => ?_)
          · have sx49 : (1 : Int) ≤ v4 := by omega
            clear h49
            refine jr.iload rfl rfl ?_
            refine jr.i2l rfl (by omega) ?_
            refine jr.ladd rfl ?_
            refine jr.lstore (ls' := [_, _, _, _, _, _, _, _]) rfl (by decide) rfl ?_
            refine jr.iinc (ls' := [_, _, _, _, _, _, _, _]) rfl rfl (by decide) rfl ?_
            refine jr.goto rfl rfl ?_
            refine jr.pick (ls := [_, _, _, _, _, _, _]) [0, 1, 3, 4, 5, 6, 7] rfl rfl ?_
            exact ih (nM - 1) (by omega) (k + 1) (s + r3) b t u x (by omega) (by omega) (by omega) (by omega) (by omega) (by omega) (by rw [sb_s (by omega), ← hy0]; unfold fz; (try rw [rf_a]); (repeat' split) <;> omega) (by omega) (by omega) (by omega) (by omega) (by omega) (by omega) (by omega)
          · refine jr.iload rfl rfl ?_
            refine jr.bipush rfl (by decide) ?_
            refine jr.ishl rfl ?_
            have b5 : j_shl r3 8 = r3 * 256 := j_shl_ex 8 (by decide) (by omega) (by omega)
            generalize j_shl r3 8 = v5 at b5 ⊢
            refine jr.i2l rfl (by omega) ?_
            refine jr.goto rfl rfl ?_
            refine jr.ladd rfl ?_
            refine jr.lstore (ls' := [_, _, _, _, _, _, _, _]) rfl (by decide) rfl ?_
            refine jr.iinc (ls' := [_, _, _, _, _, _, _, _]) rfl rfl (by decide) rfl ?_
            refine jr.goto rfl rfl ?_
            refine jr.pick (ls := [_, _, _, _, _, _, _]) [0, 1, 3, 4, 5, 6, 7] rfl rfl ?_
            exact ih (nM - 1) (by omega) (k + 1) (s + v5) b t u x (by omega) (by omega) (by omega) (by omega) (by omega) (by omega) (by rw [sb_s (by omega), ← hy0]; unfold fz; (try rw [rf_a]); (repeat' split) <;> omega) (by omega) (by omega) (by omega) (by omega) (by omega) (by omega) (by omega)
        · refine jr.iconst rfl ?_
          refine jr.goto rfl rfl ?_
          refine jr.istore (ls' := [_, _, _, _, _, _, _, _]) rfl (by decide) rfl ?_
          refine jr.lload rfl rfl ?_
          refine jr.iload rfl rfl ?_
          refine jr.iload_n rfl rfl ?_
          refine jr.isub rfl ?_
          refine jr.iconst rfl ?_
          refine jr.irem rfl (by decide) ?_
          have b6 : j_rem (k - u) 2 = (k - u) % 2 := j_rem_ex (by omega) (by omega)
          generalize j_rem (k - u) 2 = v6 at b6 ⊢
          refine jr.if_ne rfl rfl (by omega) (fun h49 => ?_) (fun h49 => ?_)
          · have sx49 : (1 : Int) ≤ v6 := by omega
            clear h49
            refine jr.iload rfl rfl ?_
            refine jr.i2l rfl (by omega) ?_
            refine jr.ladd rfl ?_
            refine jr.lstore (ls' := [_, _, _, _, _, _, _, _]) rfl (by decide) rfl ?_
            refine jr.iinc (ls' := [_, _, _, _, _, _, _, _]) rfl rfl (by decide) rfl ?_
            refine jr.goto rfl rfl ?_
            refine jr.pick (ls := [_, _, _, _, _, _, _]) [0, 1, 3, 4, 5, 6, 7] rfl rfl ?_
            exact ih (nM - 1) (by omega) (k + 1) (s + 0) b t u x (by omega) (by omega) (by omega) (by omega) (by omega) (by omega) (by rw [sb_s (by omega), ← hy0]; unfold fz; (try rw [rf_a]); (repeat' split) <;> omega) (by omega) (by omega) (by omega) (by omega) (by omega) (by omega) (by omega)
          · refine jr.iload rfl rfl ?_
            refine jr.bipush rfl (by decide) ?_
            refine jr.ishl rfl ?_
            have b7 : j_shl 0 8 = 0 * 256 := j_shl_ex 8 (by decide) (by omega) (by omega)
            generalize j_shl 0 8 = v7 at b7 ⊢
            refine jr.i2l rfl (by omega) ?_
            refine jr.goto rfl rfl ?_
            refine jr.ladd rfl ?_
            refine jr.lstore (ls' := [_, _, _, _, _, _, _, _]) rfl (by decide) rfl ?_
            refine jr.iinc (ls' := [_, _, _, _, _, _, _, _]) rfl rfl (by decide) rfl ?_
            refine jr.goto rfl rfl ?_
            refine jr.pick (ls := [_, _, _, _, _, _, _]) [0, 1, 3, 4, 5, 6, 7] rfl rfl ?_
            exact ih (nM - 1) (by omega) (k + 1) (s + v7) b t u x (by omega) (by omega) (by omega) (by omega) (by omega) (by omega) (by rw [sb_s (by omega), ← hy0]; unfold fz; (try rw [rf_a]); (repeat' split) <;> omega) (by omega) (by omega) (by omega) (by omega) (by omega) (by omega) (by omega)
theorem r_added_x {A : Nat → Option (Nat × (Nat → Int32))} {Q : Option Value → jm → Prop} {M : jm} (hI_M : RI M) (hH_M : RH M) (hS_M : RF M) {x : Int} (h_x : 0 ≤ x ∧ x ≤ 23) {u : Int} (h_u : 0 ≤ u ∧ u ≤ 400) {t : Int} (h_t : 0 ≤ t ∧ t ≤ 400) {b : Int} (h_b : (-2000) ≤ b ∧ b ≤ 2000) (p0 : u ≤ t) (q : ∀ (r : Int), 0 ≤ r ∧ r ≤ 30000000 → r = sb (fz (rf M x) b) u (t - u).toNat → Q (some (.long (Int64.ofInt r))) M) : jc A 2 279 [.ref (598), .int (Int32.ofInt (x)), .int (Int32.ofInt (u)), .int (Int32.ofInt (t)), .int (Int32.ofInt (b))] M Q := by
  refine jc_of (m := xm_279) rfl (Nat.le_of_ble_eq_true rfl) rfl ?_
  refine jr.lconst (x := 0) rfl (by decide) ?_
  refine jr.lstore (ls' := [_, _, _, _, _, _]) rfl (by decide) rfl ?_
  refine jr.iload_n rfl rfl ?_
  refine jr.istore (ls' := [_, _, _, _, _, _, _]) rfl (by decide) rfl ?_
  refine jr.pick (ls := [_, _, _, _, _, _, _]) [0, 1, 6, 5, 4, 3, 2] rfl rfl ?_
  exact r_added_L6_x hI_M hH_M hS_M q 400 u 0 b t u x (by omega) (by omega) (by omega) (by omega) (by omega) (by omega) (sb_0 _ _).symm (by omega) (by omega) (by omega) (by omega) (by omega) (by omega) (by omega)
theorem r_turned_L2_x {A : Nat → Option (Nat × (Nat → Int32))} {Q : Option Value → jm → Prop} {w0 : Int} {M : jm} (hI_M : RI M) (hH_M : RH M) (hS_M : RF M) (q : ∀ (r : Int), 0 ≤ r ∧ r ≤ 65535 → r = tn w0 → Q (some (.int (Int32.ofInt r))) M) : ∀ (nM : Nat) (v : Int) (w : Int), 0 ≤ v ∧ v ≤ 4294967295 → 0 ≤ w ∧ w ≤ 4294967295 → fin v = fin w → w = w0 → v ≤ nM → jr A 0 xm_280 2 [(2, .long (Int64.ofInt (v))), (0, .long (Int64.ofInt (w)))] [] M Q := by
  intro nM
  induction nM using Nat.strongRecOn with
  | ind nM ih =>
    intro v w h_v h_w hy0 hy1 hm
    subst hy1
    refine jr.lload_n rfl rfl ?_
    refine jr.ldc2 (x := 65535) rfl rfl (by decide) ?_
    refine jr.lcmp_le rfl rfl rfl (by omega) (by omega) (fun h6 => ?_) (fun h6 => ?_)
    · refine jr.ldc2 (x := 65535) rfl rfl (by decide) ?_
      refine jr.lload_n rfl rfl ?_
      refine jr.lsub rfl ?_
      refine jr.l2i rfl ?_
      exact jr.ireturn rfl rfl rfl (q _ (by omega) (by unfold tn; rw [← hy0, fin_e (by omega)]))
    · refine jr.lload_n rfl rfl ?_
      refine jr.ldc2 (x := 65535) rfl rfl (by decide) ?_
      refine jr.land rfl ?_
      have b1 : jl_and v 65535 = v % 65536 := jl_and_mask 16 (by decide) (by omega) (by omega)
      generalize jl_and v 65535 = v1 at b1 ⊢
      refine jr.lload_n rfl rfl ?_
      refine jr.bipush rfl (by decide) ?_
      refine jr.lshr rfl ?_
      have b2 : jl_shr v 16 = v / 65536 := jl_shr_ex 16 (by decide) (by omega) (by omega)
      generalize jl_shr v 16 = v2 at b2 ⊢
      refine jr.ladd rfl ?_
      refine jr.lstore_n (ls' := [_, _]) rfl (by decide) rfl ?_
      refine jr.goto rfl rfl ?_
      refine jr.pick (ls := [_, _]) [0, 1] rfl rfl ?_
      exact ih (nM - 1) (by omega) (v1 + v2) w (by omega) (by omega) (by have hq := fin_s (v := v) (by omega) (by omega); rw [← hy0, ← hq.1]; unfold fo; congr 1; omega) (by omega) (by omega)
end
