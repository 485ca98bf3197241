theorem c_Headers_readAll_L45 {A : Nat → Option (Nat × (Nat → Int32))} {Q : Option Value → jm → Prop} {T : jm} {t : Nat} (k_t : kd t = 18) {x : Nat} (k_x : kd x = 33) {S : Int} (q : ∀ (M' : jm), CI M' → FR W_c_Headers_readAll T M' → (HC M' t) → Q none M') : ∀ (nM : Nat) (M : jm) (k : Int) (a : Int) (n : Int), CI M → FR W_c_Headers_readAll T M → (-1) ≤ k ∧ k ≤ 11 → 0 ≤ a ∧ a ≤ 400 → 0 ≤ n ∧ n ≤ 13 → M t 7 = S → (0 ≤ M ((S.toNat)) 1 ∧ M ((S.toNat)) 1 ≤ 400) → (HC M t) → 13 - n ≤ nM → jr A 4 xm_105 45 [(2, .int (Int32.ofInt (k))), (3, .int (Int32.ofInt (a))), (4, .int (Int32.ofInt (n))), (0, .ref (t)), (1, .ref (x))] [] M Q := by
  intro nM
  induction nM using Nat.strongRecOn with
  | ind nM ih =>
    intro M k a n hC_M ht_M h_k h_a h_n g_S hy0 hy1 hm
    have k_S : kd S.toNat = 33 := (congrArg (fun z : Int => kd z.toNat) g_S).symm.trans (CI.x hC_M k_t 7 rfl (by decide))
    obtain ⟨v1, e1⟩ : ∃ z_, M ((S.toNat)) 1 = z_ := ⟨_, rfl⟩
    have b1 : (-1) ≤ v1 ∧ v1 ≤ 400 := by rw [← e1]; exact (CI.r hC_M k_S (by decide) 1)
    have b2 : 0 ≤ v1 ∧ v1 ≤ 400 := by rw [← e1]; exact hy0
    refine jr.iload rfl rfl ?_
    refine jr.bipush rfl (by decide) ?_
    refine jr.icmp_gt rfl rfl (by omega) (by omega) (fun h49 => ?_) (fun h49 => ?_)
    · exact jr.vreturn rfl rfl (q _ hC_M ht_M  hy1)
    · refine jr.aload_n rfl rfl ?_
      obtain ⟨v3, e3⟩ : ∃ z_, M t 4 = z_ := ⟨_, rfl⟩
      have b3 : (-2147483648) ≤ v3 ∧ v3 ≤ 2147483647 := by rw [← e3]; exact (CI.r hC_M k_t (by decide) 4)
      refine jr.getf (i := 4) (x := v3) (v := .int (Int32.ofInt (v3))) rfl rfl (Nat.lt_trans (kx_18 k_t).1 (by decide)) (kx_18 k_t).2 (by decide) rfl rfl e3 rfl ?_
      refine jr.if_ne rfl rfl (by omega) (fun h56 => ?_) (fun h56 => ?_)
      · exact jr.vreturn rfl rfl (q _ hC_M ht_M  hy1)
      · refine jr.iload_n rfl rfl ?_
        refine jr.iconst rfl ?_
        refine jr.icmp_eq rfl rfl (by omega) (by omega) (fun h61 => ?_) (fun h61 => ?_)
        · exact jr.vreturn rfl rfl (q _ hC_M ht_M  hy1)
        · have sx61 : (0 : Int) ≤ k := by omega
          clear h61
          refine jr.aload_n rfl rfl ?_
          refine jr.iload_n rfl rfl ?_
          refine jr.iload_n rfl rfl ?_
          have k4_S : kd (S).toNat = 33 := (congrArg (fun z : Int => kd z.toNat) g_S).symm.trans (CI.x hC_M k_t 7 rfl (by decide))
          refine jr_v rfl rfl (Or.inl rfl) rfl rfl (Nat.lt_trans (kx_18 k_t).1 (by decide)) (kx_18 k_t).2 ⟨rfl, Nat.le_of_ble_eq_true rfl, Nat.le_of_ble_eq_true rfl⟩ rfl (jc.deep (c_Headers_sizeIfRight hC_M (FR.rfl _ M) k_t (by omega) (by omega) g_S (by have hq0 : M ((S.toNat)) 1 = v1 := e1; omega) (fun r4 M4 hC_M4 hf_M4 z4 w4_0 => ?_)) (by decide))
          have ht_M4 : FR W_c_Headers_readAll T M4 := FR.t ht_M hf_M4 (kw_sub rfl)
          obtain ⟨v5, e5⟩ : ∃ z_, M4 t 4 = z_ := ⟨_, rfl⟩
          have b5 : (-2147483648) ≤ v5 ∧ v5 ≤ 2147483647 := by rw [← e5]; exact (CI.r hC_M4 k_t (by decide) 4)
          obtain ⟨v6, e6⟩ : ∃ z_, M t 3 = z_ := ⟨_, rfl⟩
          have b6 : 0 ≤ v6 ∧ v6 ≤ 12 := by rw [← e6]; exact (CI.r hC_M k_t (by decide) 3)
          have e7 : M4 t 3 = v6 := (hf_M4.g k_t rfl).trans e6
          refine jr.istore (ls' := [_, _, _, _, _, _]) rfl (by decide) rfl ?_
          refine jr.aload_n rfl rfl ?_
          refine jr.getf (i := 4) (x := v5) (v := .int (Int32.ofInt (v5))) rfl rfl (Nat.lt_trans (kx_18 k_t).1 (by decide)) (kx_18 k_t).2 (by decide) rfl rfl e5 rfl ?_
          refine jr.if_ne rfl rfl (by omega) (fun h76 => ?_) (fun h76 => ?_)
          · refine jr.iinc (ls' := [_, _, _, _, _, _]) rfl rfl (by decide) rfl ?_
            refine jr.goto rfl rfl ?_
            have e8 : M4 t 7 = S := (hf_M4.g k_t rfl).trans g_S
            have e9 : M4 ((S.toNat)) 1 = v1 := (hf_M4.g k4_S rfl).trans e1
            refine jr.pick (ls := [_, _, _, _, _]) [2, 3, 0, 4, 5] rfl rfl ?_
            exact ih (nM - 1) (by omega) M4 k a (n + 1) hC_M4 ht_M4 (by omega) (by omega) (by omega) e8 (by have hq0 : M4 ((S.toNat)) 1 = v1 := e9; omega) (HC.fr hy1 hf_M4 k_t rfl) (by omega)
          · refine jr.aload_n rfl rfl ?_
            have k10 := kf_18_0 k_t
            refine jr.getf (i := 0) (v := .ref (t + 1)) rfl rfl (Nat.lt_trans (kx_18 k_t).1 (by decide)) (kx_18 k_t).2 (by decide) rfl rfl rfl (jval_ref rfl k10.1) ?_
            refine jr.aload_n rfl rfl ?_
            refine jr.getf (i := 3) (x := v6) (v := .int (Int32.ofInt (v6))) rfl rfl (Nat.lt_trans (kx_18 k_t).1 (by decide)) (kx_18 k_t).2 (by decide) rfl rfl e7 rfl ?_
            refine jr.iload_n rfl rfl ?_
            refine jr.iast (i := v6) (x := k) rfl (Nat.lt_trans (kx_19 k10.2).1 (by decide)) (kx_19 k10.2).2 (by decide) (by omega) (by omega) ?_
            refine jr.aload_n rfl rfl ?_
            have k11 := kf_18_1 k_t
            refine jr.getf (i := 1) (v := .ref (t + 2)) rfl rfl (Nat.lt_trans (kx_18 k_t).1 (by decide)) (kx_18 k_t).2 (by decide) rfl rfl rfl (jval_ref rfl k11.1) ?_
            refine jr.aload_n rfl rfl ?_
            refine jr.getf (i := 3) (x := v6) (v := .int (Int32.ofInt (v6))) rfl rfl (Nat.lt_trans (kx_18 k_t).1 (by decide)) (kx_18 k_t).2 (by decide) rfl rfl ((ju_c _ _ (kd_ne (by rw [k_t, k10.2]; decide))).trans e7) rfl ?_
            refine jr.iload_n rfl rfl ?_
            refine jr.iast (i := v6) (x := a) rfl (Nat.lt_trans (kx_20 k11.2).1 (by decide)) (kx_20 k11.2).2 (by decide) (by omega) (by omega) ?_
            refine jr.aload_n rfl rfl ?_
            have k12 := kf_18_2 k_t
            refine jr.getf (i := 2) (v := .ref (t + 3)) rfl rfl (Nat.lt_trans (kx_18 k_t).1 (by decide)) (kx_18 k_t).2 (by decide) rfl rfl rfl (jval_ref rfl k12.1) ?_
            refine jr.aload_n rfl rfl ?_
            refine jr.getf (i := 3) (x := v6) (v := .int (Int32.ofInt (v6))) rfl rfl (Nat.lt_trans (kx_18 k_t).1 (by decide)) (kx_18 k_t).2 (by decide) rfl rfl ((ju_c _ _ (kd_ne (by rw [k_t, k11.2]; decide))).trans ((ju_c _ _ (kd_ne (by rw [k_t, k10.2]; decide))).trans e7)) rfl ?_
            refine jr.iload rfl rfl ?_
            refine jr.iast (i := v6) (x := r4) rfl (Nat.lt_trans (kx_21 k12.2).1 (by decide)) (kx_21 k12.2).2 (by decide) (by omega) (by omega) ?_
            refine jr.aload_n rfl rfl ?_
            refine jr.dup rfl rfl ?_
            refine jr.getf (i := 3) (x := v6) (v := .int (Int32.ofInt (v6))) rfl rfl (Nat.lt_trans (kx_18 k_t).1 (by decide)) (kx_18 k_t).2 (by decide) rfl rfl ((ju_c _ _ (kd_ne (by rw [k_t, k12.2]; decide))).trans ((ju_c _ _ (kd_ne (by rw [k_t, k11.2]; decide))).trans ((ju_c _ _ (kd_ne (by rw [k_t, k10.2]; decide))).trans e7))) rfl ?_
            refine jr.iconst rfl ?_
            refine jr.iadd rfl ?_
            refine jr.putf (i := 3) (x := (v6 + 1)) rfl rfl (Nat.lt_trans (kx_18 k_t).1 (by decide)) (kx_18 k_t).2 (by decide) rfl rfl rfl rfl rfl ?_
            refine jr.aload_n rfl rfl ?_
            refine jr.iload_n rfl rfl ?_
            refine jr.iload_n rfl rfl ?_
            refine jr.iload_n rfl rfl ?_
            refine jr.iload rfl rfl ?_
            refine jr.iadd rfl ?_
            refine jr_v rfl rfl (Or.inl rfl) rfl rfl (Nat.lt_trans (kx_18 k_t).1 (by decide)) (kx_18 k_t).2 ⟨rfl, Nat.le_of_ble_eq_true rfl, Nat.le_of_ble_eq_true rfl⟩ rfl (jc.deep (c_Headers_kindBehind (CI.u (CI.u (CI.u (CI.u hC_M4 (i := v6) k10.2 (show (0 : Int) ≤ _ ∧ _ ≤ (11 : Int) from by omega) rfl) (i := v6) k11.2 (show (0 : Int) ≤ _ ∧ _ ≤ (400 : Int) from by omega) rfl) (i := v6) k12.2 (show (-400 : Int) ≤ _ ∧ _ ≤ (2048 : Int) from by omega) rfl) (i := 3) k_t (show (0 : Int) ≤ _ ∧ _ ≤ (12 : Int) from by omega) rfl) k_t (by omega) (by omega) (by omega) (fun r13 z13  => ?_)) (by decide))
            refine jr.istore_n (ls' := [_, _, _, _, _, _]) rfl (by decide) rfl ?_
            refine jr.iload_n rfl rfl ?_
            refine jr.iload rfl rfl ?_
            refine jr.iadd rfl ?_
            refine jr.istore_n (ls' := [_, _, _, _, _, _]) rfl (by decide) rfl ?_
            refine jr.iinc (ls' := [_, _, _, _, _, _]) rfl rfl (by decide) rfl ?_
            refine jr.goto rfl rfl ?_
            have e14 : M4 t 7 = S := (hf_M4.g k_t rfl).trans g_S
            have e15 : M4 ((S.toNat)) 1 = v1 := (hf_M4.g k4_S rfl).trans e1
            refine jr.pick (ls := [_, _, _, _, _]) [2, 1, 0, 4, 5] rfl rfl ?_
            exact ih (nM - 1) (by omega) ((ju (ju (ju (ju M4 ((t + 1)) v6 k) ((t + 2)) v6 a) ((t + 3)) v6 r4) t 3 (v6 + 1))) r13 (a + r4) (n + 1) (CI.u (CI.u (CI.u (CI.u hC_M4 (i := v6) k10.2 (show (0 : Int) ≤ _ ∧ _ ≤ (11 : Int) from by omega) rfl) (i := v6) k11.2 (show (0 : Int) ≤ _ ∧ _ ≤ (400 : Int) from by omega) rfl) (i := v6) k12.2 (show (-400 : Int) ≤ _ ∧ _ ≤ (2048 : Int) from by omega) rfl) (i := 3) k_t (show (0 : Int) ≤ _ ∧ _ ≤ (12 : Int) from by omega) rfl) (FR.o (FR.o (FR.o (FR.o ht_M4 k10.2 rfl) k11.2 rfl) k12.2 rfl) k_t rfl) (by omega) (by omega) (by omega) ((ju_i _ _ (by decide)).trans ((ju_c _ _ (kd_ne (by rw [k_t, k12.2]; decide))).trans ((ju_c _ _ (kd_ne (by rw [k_t, k11.2]; decide))).trans ((ju_c _ _ (kd_ne (by rw [k_t, k10.2]; decide))).trans e14)))) (by have hq0 : (ju (ju (ju (ju M4 ((t + 1)) v6 k) ((t + 2)) v6 a) ((t + 3)) v6 r4) t 3 (v6 + 1)) ((S.toNat)) 1 = v1 := ((ju_i _ _ (by decide)).trans ((ju_c _ _ (kd_ne (by rw [k4_S, k12.2]; decide))).trans ((ju_c _ _ (kd_ne (by rw [k4_S, k11.2]; decide))).trans ((ju_c _ _ (kd_ne (by rw [k4_S, k10.2]; decide))).trans e15)))); omega) (HC.st (HC.fr hy1 hf_M4 k_t rfl) k_t e7 (by omega) (by omega) (by omega)) (by omega)
