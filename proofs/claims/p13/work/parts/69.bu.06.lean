section
theorem c_Headers_nearestNet_x_L4 {A : Nat → Option (Nat × (Nat → Int32))} {Q : Option Value → jm → Prop} {f : Int → Int} {N : Int} {M : jm} (hC_M : CI M) {t : Nat} (k_t : kd t = 18) {C : Int} {x : Int} (q : ∀ (r : Int), (-1) ≤ r ∧ r ≤ 11 → (r = nxD f N x.toNat) → Q (some (.int (Int32.ofInt r))) M) : ∀ (nM : Nat) (i : Int), (-1) ≤ i ∧ i ≤ 11 → M t 3 = C → (∀ i : Int, 0 ≤ i → i < C → M (t + 1) i = hX f N i) → (nxD f N x.toNat = nxD f N (i + 1).toNat) → (i < C) → i + 1 ≤ nM → jr A 1 xm_122 4 [(2, .int (Int32.ofInt (i))), (0, .ref (t))] [] M Q := by
  intro nM
  induction nM using Nat.strongRecOn with
  | ind nM ih =>
    intro i h_i g_C hy0 hy1 hy2 hm
    have b_C : 0 ≤ C ∧ C ≤ 12 := by rw [← g_C]; exact (CI.r hC_M k_t (by decide) 3)
    refine jr.iload_n rfl rfl ?_
    refine jr.if_lt rfl rfl (by omega) (fun h5 => ?_) (fun h5 => ?_)
    · refine jr.iconst rfl ?_
      exact jr.ireturn rfl rfl rfl (q _ (by omega) (by rw [hy1, nxD_e (by omega)]))
    · refine jr.aload_n rfl rfl ?_
      have k1 := kf_18_0 k_t
      refine jr.getf (i := 0) (v := .ref (t + 1)) rfl rfl (Nat.lt_trans (kx_18 k_t).1 (by decide)) (kx_18 k_t).2 (by decide) rfl rfl rfl (jval_ref rfl k1.1) ?_
      refine jr.iload_n rfl rfl ?_
      obtain ⟨v2, e2⟩ : ∃ z_, M ((t + 1)) i = z_ := ⟨_, rfl⟩
      have b2 : 0 ≤ v2 ∧ v2 ≤ 11 := by rw [← e2]; exact (CI.r hC_M k1.2 (by decide) i)
      refine jr.iald (i := i) (x := v2) rfl (Nat.lt_trans (kx_19 k1.2).1 (by decide)) (kx_19 k1.2).2 (by decide) (by omega) (by omega) e2 ?_
      have hr := hy0 i (by omega) (by omega)
      refine jr_s rfl rfl (Or.inr rfl) ⟨Nat.le_of_ble_eq_true rfl, Nat.le_of_ble_eq_true rfl⟩ rfl rfl (jc.deep (c_PacketWall_isNetKind_x hC_M (by omega) (fun r3 z3 w3_0 w3_1 => ?_)) (by decide))
      refine jr.if_eq rfl rfl (by omega) (fun h17 => ?_) (fun h17 => ?_)
      · refine jr.iinc (ls' := [_, _]) rfl rfl (by decide) rfl ?_
        refine jr.goto rfl rfl ?_
        refine jr.pick (ls := [_, _]) [0, 1] rfl rfl ?_
        exact ih (nM - 1) (by omega) (i + (-1)) (by omega) g_C hy0 (by rw [hy1, nxD_s (by omega), if_neg (by omega), show i + -1 + 1 = i from by omega]) (by omega) (by omega)
      · have sx17 : (1 : Int) ≤ r3 := by omega
        clear h17
        refine jr.iload_n rfl rfl ?_
        exact jr.ireturn rfl rfl rfl (q _ (by omega) (by rw [hy1, nxD_s (by omega), if_pos (by omega)]))
theorem c_Headers_nearestNet_x {A : Nat → Option (Nat × (Nat → Int32))} {Q : Option Value → jm → Prop} {f : Int → Int} {N : Int} {M : jm} (hC_M : CI M) {t : Nat} (k_t : kd t = 18) {x : Int} (h_x : 0 ≤ x ∧ x ≤ 11) {C : Int} (g_C : M t 3 = C) (p0 : ∀ i : Int, 0 ≤ i → i < C → M (t + 1) i = hX f N i) (p1 : x < C) (q : ∀ (r : Int), (-1) ≤ r ∧ r ≤ 11 → (r = nxD f N x.toNat) → Q (some (.int (Int32.ofInt r))) M) : jc A 2 122 [.ref (t), .int (Int32.ofInt (x))] M Q := by
  refine jc_of (m := xm_122) rfl (Nat.le_of_ble_eq_true rfl) rfl ?_
  have b_C : 0 ≤ C ∧ C ≤ 12 := by rw [← g_C]; exact (CI.r hC_M k_t (by decide) 3)
  refine jr.iload_n rfl rfl ?_
  refine jr.iconst rfl ?_
  refine jr.isub rfl ?_
  refine jr.istore_n (ls' := [_, _, _]) rfl (by decide) rfl ?_
  refine jr.pick (ls := [_, _]) [0, 1] rfl rfl ?_
  exact c_Headers_nearestNet_x_L4 hC_M k_t q 12 (x - 1) (by omega) g_C p0 (by rw [show x - 1 + 1 = x from by omega]) (by omega) (by omega)
theorem c_Headers_isMoreToCome_x {A : Nat → Option (Nat × (Nat → Int32))} {Q : Option Value → jm → Prop} {f : Int → Int} {N : Int} {M : jm} (hC_M : CI M) {t : Nat} (k_t : kd t = 18) {x : Int} (h_x : (-2147483648) ≤ x ∧ x ≤ 2147483647) {C : Int} (g_C : M t 3 = C) (p0 : HS M t f N) (q : ∀ (r : Int), 0 ≤ r ∧ r ≤ 1 → (r = mrf f N C x) → Q (some (.int (Int32.ofInt r))) M) : jc A 3 116 [.ref (t), .int (Int32.ofInt (x))] M Q := by
  refine jc_of (m := xm_116) rfl (Nat.le_of_ble_eq_true rfl) rfl ?_
  have b_C : 0 ≤ C ∧ C ≤ 12 := by rw [← g_C]; exact (CI.r hC_M k_t (by decide) 3)
  refine jr.aload_n rfl rfl ?_
  refine jr.iload_n rfl rfl ?_
  refine jr_v rfl rfl (Or.inl rfl) rfl rfl (Nat.lt_trans (kx_18 k_t).1 (by decide)) (kx_18 k_t).2 ⟨rfl, Nat.le_of_ble_eq_true rfl, Nat.le_of_ble_eq_true rfl⟩ rfl (jc.deep (c_Headers_kindAt_x hC_M k_t (by omega) g_C p0 (fun r1 z1 w1_0 => ?_)) (by decide))
  refine jr.iconst rfl ?_
  refine jr.icmp_ne rfl rfl (by omega) (by omega) (fun h6 => ?_) (fun h6 => ?_)
  · refine jr.aload_n rfl rfl ?_
    refine jr.iload_n rfl rfl ?_
    refine jr.iconst rfl ?_
    refine jr_v rfl rfl (Or.inl rfl) rfl rfl (Nat.lt_trans (kx_18 k_t).1 (by decide)) (kx_18 k_t).2 ⟨rfl, Nat.le_of_ble_eq_true rfl, Nat.le_of_ble_eq_true rfl⟩ rfl (jc.deep (c_Headers_valueOf_x hC_M k_t (by omega) (by omega) g_C p0 (fun r2 z2 w2_0 => ?_)) (by decide))
    refine jr.lstore_n (ls' := [_, _, _]) rfl (by decide) rfl ?_
    refine jr.lload_n rfl rfl ?_
    refine jr.lconst (x := 1) rfl (by decide) ?_
    refine jr.land rfl ?_
    have b3 : jl_and r2 1 = r2 % 2 ∧ 0 ≤ jl_and r2 1 ∧ jl_and r2 1 ≤ 1 := ⟨jl_and_1 _, by rw [jl_and_1]; omega⟩
    generalize jl_and r2 1 = v3 at b3 ⊢
    refine jr.lconst (x := 0) rfl (by decide) ?_
    refine jr.lcmp_eq rfl rfl rfl (by omega) (by omega) (fun h29 => ?_) (fun h29 => ?_)
    · refine jr.iconst rfl ?_
      exact jr.ireturn rfl rfl rfl (q _ (by omega) (by have hq : mrf f N C x = r2 % 2 := (by unfold mrf; rw [← w1_0]; first | (rw [if_pos (by omega), ← w2_0]) | (rw [if_neg (by omega), ← w2_0])); omega))
    · refine jr.iconst rfl ?_
      refine jr.goto rfl rfl ?_
      exact jr.ireturn rfl rfl rfl (q _ (by omega) (by have hq : mrf f N C x = r2 % 2 := (by unfold mrf; rw [← w1_0]; first | (rw [if_pos (by omega), ← w2_0]) | (rw [if_neg (by omega), ← w2_0])); omega))
  · refine jr.aload_n rfl rfl ?_
    refine jr.iload_n rfl rfl ?_
    refine jr.iconst rfl ?_
    refine jr_v rfl rfl (Or.inl rfl) rfl rfl (Nat.lt_trans (kx_18 k_t).1 (by decide)) (kx_18 k_t).2 ⟨rfl, Nat.le_of_ble_eq_true rfl, Nat.le_of_ble_eq_true rfl⟩ rfl (jc.deep (c_Headers_valueOf_x hC_M k_t (by omega) (by omega) g_C p0 (fun r4 z4 w4_0 => ?_)) (by decide))
    refine jr.goto rfl rfl ?_
    refine jr.lstore_n (ls' := [_, _, _]) rfl (by decide) rfl ?_
    refine jr.lload_n rfl rfl ?_
    refine jr.lconst (x := 1) rfl (by decide) ?_
    refine jr.land rfl ?_
    have b5 : jl_and r4 1 = r4 % 2 ∧ 0 ≤ jl_and r4 1 ∧ jl_and r4 1 ≤ 1 := ⟨jl_and_1 _, by rw [jl_and_1]; omega⟩
    generalize jl_and r4 1 = v5 at b5 ⊢
    refine jr.lconst (x := 0) rfl (by decide) ?_
    refine jr.lcmp_eq rfl rfl rfl (by omega) (by omega) (fun h29 => ?_) (fun h29 => ?_)
    · refine jr.iconst rfl ?_
      exact jr.ireturn rfl rfl rfl (q _ (by omega) (by have hq : mrf f N C x = r4 % 2 := (by unfold mrf; rw [← w1_0]; first | (rw [if_pos (by omega), ← w4_0]) | (rw [if_neg (by omega), ← w4_0])); omega))
    · refine jr.iconst rfl ?_
      refine jr.goto rfl rfl ?_
      exact jr.ireturn rfl rfl rfl (q _ (by omega) (by have hq : mrf f N C x = r4 % 2 := (by unfold mrf; rw [← w1_0]; first | (rw [if_pos (by omega), ← w4_0]) | (rw [if_neg (by omega), ← w4_0])); omega))
theorem c_Headers_addressOf_x {A : Nat → Option (Nat × (Nat → Int32))} {Q : Option Value → jm → Prop} {f : Int → Int} {N : Int} {M : jm} (hC_M : CI M) {t : Nat} (k_t : kd t = 18) {x : Int} (h_x : (-2147483648) ≤ x ∧ x ≤ 2147483647) {y : Int} (h_y : 0 ≤ y ∧ y ≤ 1) {C : Int} (g_C : M t 3 = C) (p0 : HS M t f N) (q : ∀ (r : Int), (-9223372036854775808) ≤ r ∧ r ≤ 9223372036854775807 → (r = adf f N C x y) → Q (some (.long (Int64.ofInt r))) M) : jc A 3 113 [.ref (t), .int (Int32.ofInt (x)), .int (Int32.ofInt (y))] M Q := by
  refine jc_of (m := xm_113) rfl (Nat.le_of_ble_eq_true rfl) rfl ?_
  have b_C : 0 ≤ C ∧ C ≤ 12 := by rw [← g_C]; exact (CI.r hC_M k_t (by decide) 3)
  refine jr.aload_n rfl rfl ?_
  refine jr.iload_n rfl rfl ?_
  refine jr_v rfl rfl (Or.inl rfl) rfl rfl (Nat.lt_trans (kx_18 k_t).1 (by decide)) (kx_18 k_t).2 ⟨rfl, Nat.le_of_ble_eq_true rfl, Nat.le_of_ble_eq_true rfl⟩ rfl (jc.deep (c_Headers_kindAt_x hC_M k_t (by omega) g_C p0 (fun r1 z1 w1_0 => ?_)) (by decide))
  refine jr.iconst rfl ?_
  refine jr.icmp_ne rfl rfl (by omega) (by omega) (fun h6 => ?_) (fun h6 => ?_)
  · refine jr.iconst rfl ?_
    refine jr.istore_n (ls' := [_, _, _, _]) rfl (by decide) rfl ?_
    refine jr.aload_n rfl rfl ?_
    refine jr.iload_n rfl rfl ?_
    refine jr.iload_n rfl rfl ?_
    refine jr.iload_n rfl rfl ?_
    refine jr.iadd rfl ?_
    refine jr_v rfl rfl (Or.inl rfl) rfl rfl (Nat.lt_trans (kx_18 k_t).1 (by decide)) (kx_18 k_t).2 ⟨rfl, Nat.le_of_ble_eq_true rfl, Nat.le_of_ble_eq_true rfl⟩ rfl (jc.deep (c_Headers_valueOf_x hC_M k_t (by omega) (by omega) g_C p0 (fun r2 z2 w2_0 => ?_)) (by decide))
    exact jr.lreturn rfl rfl (q _ (by omega) (by unfold adf; rw [← w1_0]; first | (rw [if_pos (by omega), ← w2_0]) | (rw [if_neg (by omega), ← w2_0])))
  · refine jr.bipush rfl (by decide) ?_
    refine jr.goto rfl rfl ?_
    refine jr.istore_n (ls' := [_, _, _, _]) rfl (by decide) rfl ?_
    refine jr.aload_n rfl rfl ?_
    refine jr.iload_n rfl rfl ?_
    refine jr.iload_n rfl rfl ?_
    refine jr.iload_n rfl rfl ?_
    refine jr.iadd rfl ?_
    refine jr_v rfl rfl (Or.inl rfl) rfl rfl (Nat.lt_trans (kx_18 k_t).1 (by decide)) (kx_18 k_t).2 ⟨rfl, Nat.le_of_ble_eq_true rfl, Nat.le_of_ble_eq_true rfl⟩ rfl (jc.deep (c_Headers_valueOf_x hC_M k_t (by omega) (by omega) g_C p0 (fun r3 z3 w3_0 => ?_)) (by decide))
    exact jr.lreturn rfl rfl (q _ (by omega) (by unfold adf; rw [← w1_0]; first | (rw [if_pos (by omega), ← w3_0]) | (rw [if_neg (by omega), ← w3_0])))
end
section
/-! ===== each field's value ===== -/
theorem vof_eq {f : Int → Int} {z k a j o c s b : Int} (h : k ≠ 11) (ho : xcv_4 (4 * (xcv_3 k + j)) = o) (hc : xcv_4 (4 * (xcv_3 k + j) + 1) = c) (hs : xcv_4 (4 * (xcv_3 k + j) + 2) = s) (hb : xcv_4 (4 * (xcv_3 k + j) + 3) = b) : vof f z k a j = if 64 ≤ b then jl_w (nbs f (a + o) c.toNat) else nbs f (a + o) c.toNat / ((2 ^ s.toNat : Nat) : Int) % ((2 ^ b.toNat : Nat) : Int) := by
  unfold vof
  rw [if_neg h, ho, hc, hs, hb]
end
