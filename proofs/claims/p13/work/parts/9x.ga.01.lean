section
theorem c_Flow_readRow_x_L271 {A : Nat → Option (Nat × (Nat → Int32))} {Q : Option Value → jm → Prop} {T : jm} {t : Nat} (k_t : kd t = 1) {y : Int} {z : Int} (q : ∀ (r : Int) (M' : jm), CI M' → FR W_c_Flow_readRow_x T M' → 0 ≤ r ∧ r ≤ 1 → (RRD M' t (T 1) y z ∧ fr7 T M' t ∧ ((r = 1 ∧ rGood (T 1) y) ∨ (r = 0 ∧ ¬ rGood (T 1) y))) → Q (some (.int (Int32.ofInt r))) M') : ∀ (nM : Nat) (M : jm), CI M → FR W_c_Flow_readRow_x T M → 0 ≤ y ∧ y ≤ 1552 → 0 ≤ z ∧ z ≤ 2000000000 → (RWE T M t (T 1) y) → 0 ≤ nM → jr A 2 xm_65 271 [(2, .int (Int32.ofInt (y))), (3, .int (Int32.ofInt (z))), (0, .ref (t)), (1, .ref (1))] [] M Q := by
  intro nM
  induction nM using Nat.strongRecOn with
  | ind nM ih =>
    intro M  hC_M ht_M h_y h_z hy0 hm
    refine jr.aload_n rfl rfl ?_
    refine jr.iload_n rfl rfl ?_
    refine jr.bipush rfl (by decide) ?_
    refine jr.iadd rfl ?_
    refine jr.iconst rfl ?_
    refine jr_s rfl rfl (Or.inr rfl) ⟨Nat.le_of_ble_eq_true rfl, Nat.le_of_ble_eq_true rfl⟩ rfl rfl (jc.deep (c_PacketWall_numberAt_tx hC_M (by omega) (by omega) (by omega) (fun r1 z1 w1_0 => ?_)) (by decide))
    have hv1 := tp4 (f := T 1) (r := r1) (fun i => by rw [← hy0.1.1]; exact tpb hC_M i) (by have h9 := w1_0; rw [(show M 1 = T 1 from (rfl).trans hy0.1.1)] at h9; exact h9)
    refine jr.lstore (ls' := [_, _, _, _, _]) rfl (by decide) rfl ?_
    refine jr.aload_n rfl rfl ?_
    refine jr.iload_n rfl rfl ?_
    refine jr.lload rfl rfl ?_
    refine jr.ldc2 (x := 200) rfl rfl (by decide) ?_
    refine jr.lmin rfl rfl (Nat.le_of_ble_eq_true rfl) (by omega) (by omega) ?_
    intro v2 d2 b2 c2
    refine jr.l2i rfl ?_
    refine jr.iadd rfl ?_
    refine jr.putf (i := 6) (x := (z + v2)) rfl rfl (Nat.lt_trans (kx_1 k_t).1 (by decide)) (kx_1 k_t).2 (by decide) rfl rfl rfl rfl rfl ?_
    refine jr.aload_n rfl rfl ?_
    refine jr.iload_n rfl rfl ?_
    refine jr.bipush rfl (by decide) ?_
    refine jr.iadd rfl ?_
    refine jr.iconst rfl ?_
    refine jr_s rfl rfl (Or.inr rfl) ⟨Nat.le_of_ble_eq_true rfl, Nat.le_of_ble_eq_true rfl⟩ rfl rfl (jc.deep (c_PacketWall_numberAt_tx (CI.u hC_M (i := 6) k_t (show (-2147483648 : Int) ≤ _ ∧ _ ≤ (2147483647 : Int) from by omega) rfl) (by omega) (by omega) (by omega) (fun r3 z3 w3_0 => ?_)) (by decide))
    have hv3 := tp2 (f := T 1) (r := r3) (fun i => by rw [← hy0.1.1]; exact tpb hC_M i) (by have h9 := w3_0; rw [(show ((ju M t 6 (z + v2))) 1 = T 1 from (((ju1_row (kd_ne (by rw [k_t]; decide))).trans rfl)).trans hy0.1.1)] at h9; exact h9)
    refine jr.aload_n rfl rfl ?_
    refine jr.iload_n rfl rfl ?_
    refine jr.iload_n rfl rfl ?_
    refine jr.bipush rfl (by decide) ?_
    refine jr.iadd rfl ?_
    refine jr_s rfl rfl (Or.inr rfl) ⟨Nat.le_of_ble_eq_true rfl, Nat.le_of_ble_eq_true rfl⟩ rfl rfl (jc.deep (c_PacketWall_addedTwos_tx (CI.u hC_M (i := 6) k_t (show (-2147483648 : Int) ≤ _ ∧ _ ≤ (2147483647 : Int) from by omega) rfl) (by omega) (by omega) (by omega) (fun r4 z4 w4_0 => ?_)) (by decide))
    refine jr_s rfl rfl (Or.inr rfl) ⟨Nat.le_of_ble_eq_true rfl, Nat.le_of_ble_eq_true rfl⟩ rfl rfl (jc.deep (c_PacketWall_foldedSum_x (CI.u hC_M (i := 6) k_t (show (-2147483648 : Int) ≤ _ ∧ _ ≤ (2147483647 : Int) from by omega) rfl) (by omega) (fun r5 z5 w5_0 => ?_)) (by decide))
    refine jr.i2l rfl (by omega) ?_
    refine jr.lcmp_ne rfl rfl rfl (by omega) (by omega) (fun h319 => ?_) (fun h319 => ?_)
    · refine jr.iconst rfl ?_
      refine jr.istore (ls' := [_, _, _, _, _, _]) rfl (by decide) rfl ?_
      refine jr.iload rfl rfl ?_
      refine jr.if_eq rfl rfl (by omega) (fun _ => ?_) (fun h => absurd (by decide) h)
      refine jr.iconst rfl ?_
      exact jr.ireturn rfl rfl rfl (q _ _ (CI.u hC_M (i := 6) k_t (show (-2147483648 : Int) ≤ _ ∧ _ ≤ (2147483647 : Int) from by omega) rfl) (FR.o ht_M k_t rfl) (by omega) (by have hD := RWE.d (Z := z) hy0 (k1_18 k_t) (v := z + v2) (by rw [← hv1.1]; split <;> omega); have hsum : tn (sb (T 1) y 46) = r5 := (by rw [w5_0]; have h9 := w4_0; rw [(show ((ju M t 6 (z + v2))) 1 = T 1 from (((ju1_row (kd_ne (by rw [k_t]; decide))).trans rfl)).trans hy0.1.1), show (y + 46 - y).toNat = 46 from by omega] at h9; rw [h9]); exact ⟨hD.1, hD.2.1, Or.inr ⟨rfl, fun u => by obtain ⟨u1, u2, u3, u4⟩ := u; rw [hsum, ← hv3.1] at u1; rw [← hv1.1] at u4; first | omega⟩⟩))
    · refine jr.iconst rfl ?_
      refine jr.goto rfl rfl ?_
      refine jr.istore (ls' := [_, _, _, _, _, _]) rfl (by decide) rfl ?_
      refine jr.iload rfl rfl ?_
      refine jr.if_eq rfl rfl (by omega) (fun h => absurd h (by decide)) (fun _ => ?_)
      refine jr.aload_n rfl rfl ?_
      obtain ⟨v7, e7⟩ : ∃ z_, M t 2 = z_ := ⟨_, rfl⟩
      have b7 : (-2147483648) ≤ v7 ∧ v7 ≤ 2147483647 := by rw [← e7]; exact (CI.r hC_M k_t (by decide) 2)
      obtain ⟨v8, e8⟩ : ∃ z_, M t 5 = z_ := ⟨_, rfl⟩
      have b8 : (-2147483648) ≤ v8 ∧ v8 ≤ 2147483647 := by rw [← e8]; exact (CI.r hC_M k_t (by decide) 5)
      refine jr_v rfl rfl (Or.inl rfl) rfl rfl (Nat.lt_trans (kx_1 k_t).1 (by decide)) (kx_1 k_t).2 ⟨rfl, Nat.le_of_ble_eq_true rfl, Nat.le_of_ble_eq_true rfl⟩ rfl (jc.deep (c_Flow_hasRightState_x (CI.u hC_M (i := 6) k_t (show (-2147483648 : Int) ≤ _ ∧ _ ≤ (2147483647 : Int) from by omega) rfl) k_t ((ju_i _ _ (by decide)).trans e7) ((ju_i _ _ (by decide)).trans e8) (fun r6 z6 w6_0 => ?_)) (by decide))
      skip
      refine jr.if_eq rfl rfl (by omega) (fun h339 => ?_) (fun h339 => ?_)
      · refine jr.iconst rfl ?_
        exact jr.ireturn rfl rfl rfl (q _ _ (CI.u hC_M (i := 6) k_t (show (-2147483648 : Int) ≤ _ ∧ _ ≤ (2147483647 : Int) from by omega) rfl) (FR.o ht_M k_t rfl) (by omega) (by have hD := RWE.d (Z := z) hy0 (k1_18 k_t) (v := z + v2) (by rw [← hv1.1]; split <;> omega); have hsum : tn (sb (T 1) y 46) = r5 := (by rw [w5_0]; have h9 := w4_0; rw [(show ((ju M t 6 (z + v2))) 1 = T 1 from (((ju1_row (kd_ne (by rw [k_t]; decide))).trans rfl)).trans hy0.1.1), show (y + 46 - y).toNat = 46 from by omega] at h9; rw [h9]); have hst : (r6 = 1 ∧ stOK (T 1 y) (T 1 (y + 1) % 16)) ∨ (r6 = 0 ∧ ¬ stOK (T 1 y) (T 1 (y + 1) % 16)) := (by have h9 := w6_0; rw [← (show _ = T 1 y from hy0.1.2.1.2.2.1), ← (show _ = T 1 (y + 1) % 16 from hy0.1.2.1.2.2.2.1), e7, e8]; exact h9); exact ⟨hD.1, hD.2.1, Or.inr ⟨rfl, fun u => by obtain ⟨u1, u2, u3, u4⟩ := u; rw [hsum, ← hv3.1] at u1; rw [← hv1.1] at u4; first | omega | exact absurd u2 (hst.resolve_left (fun h => by omega)).2⟩⟩))
      · refine jr.aload_n rfl rfl ?_
        obtain ⟨v10, e10⟩ : ∃ z_, M t 1 = z_ := ⟨_, rfl⟩
        have b10 : 0 ≤ v10 ∧ v10 ≤ 1 := by rw [← e10]; exact (CI.r hC_M k_t (by decide) 1)
        refine jr_v rfl rfl (Or.inl rfl) rfl rfl (Nat.lt_trans (kx_1 k_t).1 (by decide)) (kx_1 k_t).2 ⟨rfl, Nat.le_of_ble_eq_true rfl, Nat.le_of_ble_eq_true rfl⟩ rfl (jc.deep (c_Flow_hasRightAddresses_x (CI.u hC_M (i := 6) k_t (show (-2147483648 : Int) ≤ _ ∧ _ ≤ (2147483647 : Int) from by omega) rfl) k_t ((ju_i _ _ (by decide)).trans e10) (fun r9 z9 w9_0 => ?_)) (by decide))
        skip
        refine jr.if_eq rfl rfl (by omega) (fun h346 => ?_) (fun h346 => ?_)
        · refine jr.iconst rfl ?_
          exact jr.ireturn rfl rfl rfl (q _ _ (CI.u hC_M (i := 6) k_t (show (-2147483648 : Int) ≤ _ ∧ _ ≤ (2147483647 : Int) from by omega) rfl) (FR.o ht_M k_t rfl) (by omega) (by have hD := RWE.d (Z := z) hy0 (k1_18 k_t) (v := z + v2) (by rw [← hv1.1]; split <;> omega); have hsum : tn (sb (T 1) y 46) = r5 := (by rw [w5_0]; have h9 := w4_0; rw [(show ((ju M t 6 (z + v2))) 1 = T 1 from (((ju1_row (kd_ne (by rw [k_t]; decide))).trans rfl)).trans hy0.1.1), show (y + 46 - y).toNat = 46 from by omega] at h9; rw [h9]); have hst : (r6 = 1 ∧ stOK (T 1 y) (T 1 (y + 1) % 16)) ∨ (r6 = 0 ∧ ¬ stOK (T 1 y) (T 1 (y + 1) % 16)) := (by have h9 := w6_0; rw [← (show _ = T 1 y from hy0.1.2.1.2.2.1), ← (show _ = T 1 (y + 1) % 16 from hy0.1.2.1.2.2.2.1), e7, e8]; exact h9); have had : (r9 = 1 ∧ adOK (T 1) y) ∨ (r9 = 0 ∧ ¬ adOK (T 1) y) := (by have h9 := w9_0; have h8 := hy0.1.2.1.2.1; rw [e10] at h8; have a0 := (hy0.1.2.2.1 0 (by decide) (by decide)).1.2.2.1; have a1 := (hy0.1.2.2.1 1 (by decide) (by decide)).1.2.2.1; have j0 : ((ju M t 6 (z + v2))) (t + 1) 0 = M (t + 1) 0 := ju_c _ _ (by omega); have j1 : ((ju M t 6 (z + v2))) (t + 1) 1 = M (t + 1) 1 := ju_c _ _ (by omega); rw [j0, j1, a0, a1] at h9; unfold adOK; rw [← h8]; have hx := tbit (T 1) y; rcases h9 with h9 | h9; (exact Or.inl ⟨h9.1, by have h7 := h9.2; omega⟩); (exact Or.inr ⟨h9.1, by have h7 := h9.2; omega⟩)); exact ⟨hD.1, hD.2.1, Or.inr ⟨rfl, fun u => by obtain ⟨u1, u2, u3, u4⟩ := u; rw [hsum, ← hv3.1] at u1; rw [← hv1.1] at u4; first | omega | exact absurd u2 (hst.resolve_left (fun h => by omega)).2 | exact absurd u3 (had.resolve_left (fun h => by omega)).2⟩⟩))
        · refine jr.lload rfl rfl ?_
          refine jr.lconst (x := 1) rfl (by decide) ?_
          refine jr.lcmp_lt rfl rfl rfl (by omega) (by omega) (fun h352 => ?_) (fun h352 => ?_)
          · refine jr.iconst rfl ?_
            exact jr.ireturn rfl rfl rfl (q _ _ (CI.u hC_M (i := 6) k_t (show (-2147483648 : Int) ≤ _ ∧ _ ≤ (2147483647 : Int) from by omega) rfl) (FR.o ht_M k_t rfl) (by omega) (by have hD := RWE.d (Z := z) hy0 (k1_18 k_t) (v := z + v2) (by rw [← hv1.1]; split <;> omega); have hsum : tn (sb (T 1) y 46) = r5 := (by rw [w5_0]; have h9 := w4_0; rw [(show ((ju M t 6 (z + v2))) 1 = T 1 from (((ju1_row (kd_ne (by rw [k_t]; decide))).trans rfl)).trans hy0.1.1), show (y + 46 - y).toNat = 46 from by omega] at h9; rw [h9]); have hst : (r6 = 1 ∧ stOK (T 1 y) (T 1 (y + 1) % 16)) ∨ (r6 = 0 ∧ ¬ stOK (T 1 y) (T 1 (y + 1) % 16)) := (by have h9 := w6_0; rw [← (show _ = T 1 y from hy0.1.2.1.2.2.1), ← (show _ = T 1 (y + 1) % 16 from hy0.1.2.1.2.2.2.1), e7, e8]; exact h9); have had : (r9 = 1 ∧ adOK (T 1) y) ∨ (r9 = 0 ∧ ¬ adOK (T 1) y) := (by have h9 := w9_0; have h8 := hy0.1.2.1.2.1; rw [e10] at h8; have a0 := (hy0.1.2.2.1 0 (by decide) (by decide)).1.2.2.1; have a1 := (hy0.1.2.2.1 1 (by decide) (by decide)).1.2.2.1; have j0 : ((ju M t 6 (z + v2))) (t + 1) 0 = M (t + 1) 0 := ju_c _ _ (by omega); have j1 : ((ju M t 6 (z + v2))) (t + 1) 1 = M (t + 1) 1 := ju_c _ _ (by omega); rw [j0, j1, a0, a1] at h9; unfold adOK; rw [← h8]; have hx := tbit (T 1) y; rcases h9 with h9 | h9; (exact Or.inl ⟨h9.1, by have h7 := h9.2; omega⟩); (exact Or.inr ⟨h9.1, by have h7 := h9.2; omega⟩)); exact ⟨hD.1, hD.2.1, Or.inr ⟨rfl, fun u => by obtain ⟨u1, u2, u3, u4⟩ := u; rw [hsum, ← hv3.1] at u1; rw [← hv1.1] at u4; first | omega | exact absurd u2 (hst.resolve_left (fun h => by omega)).2 | exact absurd u3 (had.resolve_left (fun h => by omega)).2⟩⟩))
          · refine jr.lload rfl rfl ?_
            refine jr.ldc2 (x := 200) rfl rfl (by decide) ?_
            refine jr.lcmp_gt rfl rfl rfl (by omega) (by omega) (fun h361 => ?_) (fun h361 => ?_)
            · refine jr.iconst rfl ?_
              exact jr.ireturn rfl rfl rfl (q _ _ (CI.u hC_M (i := 6) k_t (show (-2147483648 : Int) ≤ _ ∧ _ ≤ (2147483647 : Int) from by omega) rfl) (FR.o ht_M k_t rfl) (by omega) (by have hD := RWE.d (Z := z) hy0 (k1_18 k_t) (v := z + v2) (by rw [← hv1.1]; split <;> omega); have hsum : tn (sb (T 1) y 46) = r5 := (by rw [w5_0]; have h9 := w4_0; rw [(show ((ju M t 6 (z + v2))) 1 = T 1 from (((ju1_row (kd_ne (by rw [k_t]; decide))).trans rfl)).trans hy0.1.1), show (y + 46 - y).toNat = 46 from by omega] at h9; rw [h9]); have hst : (r6 = 1 ∧ stOK (T 1 y) (T 1 (y + 1) % 16)) ∨ (r6 = 0 ∧ ¬ stOK (T 1 y) (T 1 (y + 1) % 16)) := (by have h9 := w6_0; rw [← (show _ = T 1 y from hy0.1.2.1.2.2.1), ← (show _ = T 1 (y + 1) % 16 from hy0.1.2.1.2.2.2.1), e7, e8]; exact h9); have had : (r9 = 1 ∧ adOK (T 1) y) ∨ (r9 = 0 ∧ ¬ adOK (T 1) y) := (by have h9 := w9_0; have h8 := hy0.1.2.1.2.1; rw [e10] at h8; have a0 := (hy0.1.2.2.1 0 (by decide) (by decide)).1.2.2.1; have a1 := (hy0.1.2.2.1 1 (by decide) (by decide)).1.2.2.1; have j0 : ((ju M t 6 (z + v2))) (t + 1) 0 = M (t + 1) 0 := ju_c _ _ (by omega); have j1 : ((ju M t 6 (z + v2))) (t + 1) 1 = M (t + 1) 1 := ju_c _ _ (by omega); rw [j0, j1, a0, a1] at h9; unfold adOK; rw [← h8]; have hx := tbit (T 1) y; rcases h9 with h9 | h9; (exact Or.inl ⟨h9.1, by have h7 := h9.2; omega⟩); (exact Or.inr ⟨h9.1, by have h7 := h9.2; omega⟩)); exact ⟨hD.1, hD.2.1, Or.inr ⟨rfl, fun u => by obtain ⟨u1, u2, u3, u4⟩ := u; rw [hsum, ← hv3.1] at u1; rw [← hv1.1] at u4; first | omega | exact absurd u2 (hst.resolve_left (fun h => by omega)).2 | exact absurd u3 (had.resolve_left (fun h => by omega)).2⟩⟩))
            · refine jr.iconst rfl ?_
              refine jr.goto rfl rfl ?_
              exact jr.ireturn rfl rfl rfl (q _ _ (CI.u hC_M (i := 6) k_t (show (-2147483648 : Int) ≤ _ ∧ _ ≤ (2147483647 : Int) from by omega) rfl) (FR.o ht_M k_t rfl) (by omega) (by have hD := RWE.d (Z := z) hy0 (k1_18 k_t) (v := z + v2) (by rw [← hv1.1]; split <;> omega); have hsum : tn (sb (T 1) y 46) = r5 := (by rw [w5_0]; have h9 := w4_0; rw [(show ((ju M t 6 (z + v2))) 1 = T 1 from (((ju1_row (kd_ne (by rw [k_t]; decide))).trans rfl)).trans hy0.1.1), show (y + 46 - y).toNat = 46 from by omega] at h9; rw [h9]); have hst : (r6 = 1 ∧ stOK (T 1 y) (T 1 (y + 1) % 16)) ∨ (r6 = 0 ∧ ¬ stOK (T 1 y) (T 1 (y + 1) % 16)) := (by have h9 := w6_0; rw [← (show _ = T 1 y from hy0.1.2.1.2.2.1), ← (show _ = T 1 (y + 1) % 16 from hy0.1.2.1.2.2.2.1), e7, e8]; exact h9); have had : (r9 = 1 ∧ adOK (T 1) y) ∨ (r9 = 0 ∧ ¬ adOK (T 1) y) := (by have h9 := w9_0; have h8 := hy0.1.2.1.2.1; rw [e10] at h8; have a0 := (hy0.1.2.2.1 0 (by decide) (by decide)).1.2.2.1; have a1 := (hy0.1.2.2.1 1 (by decide) (by decide)).1.2.2.1; have j0 : ((ju M t 6 (z + v2))) (t + 1) 0 = M (t + 1) 0 := ju_c _ _ (by omega); have j1 : ((ju M t 6 (z + v2))) (t + 1) 1 = M (t + 1) 1 := ju_c _ _ (by omega); rw [j0, j1, a0, a1] at h9; unfold adOK; rw [← h8]; have hx := tbit (T 1) y; rcases h9 with h9 | h9; (exact Or.inl ⟨h9.1, by have h7 := h9.2; omega⟩); (exact Or.inr ⟨h9.1, by have h7 := h9.2; omega⟩)); exact ⟨hD.1, hD.2.1, Or.inl ⟨rfl, by rw [hsum, ← hv3.1]; omega, (hst.resolve_right (fun h => by omega)).2, (had.resolve_right (fun h => by omega)).2, by rw [← hv1.1]; omega⟩⟩))
end
