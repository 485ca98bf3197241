section
theorem c_PacketWall_rules_o_L22 {A : Nat → Option (Nat × (Nat → Int32))} [HA A] {Q : Option Value → jm → Prop} {T : jm} {G : Nat → Int → Int} (q : ∀ (r : Int) (M' : jm), CI M' → FR W_c_PacketWall_rules_o T M' → (-2147483648) ≤ r ∧ r ≤ 2147483647 → (PC M' ) → (M' 413 2 ≠ M' 421 2) → (M' 0 1 = 0) → Q (some (.int (Int32.ofInt r))) M') : ∀ (nM : Nat) (M : jm) (i : Int), CI M → FR W_c_PacketWall_rules_o T M → 0 ≤ i ∧ i ≤ 17 → (1 ≤ M 413 3 ∧ M 413 3 ≤ 1) → (MP M G) → (PG G) → (M 0 1 = 0) → 17 - i ≤ nM → jr A 361 xm_26 22 [(1, .int (Int32.ofInt (i))), (0, .ref (0))] [] M Q := by
  intro nM
  induction nM using Nat.strongRecOn with
  | ind nM ih =>
    intro M i hC_M ht_M h_i hy0 hy1 hy2 hy3 hm
    obtain ⟨v1, e1⟩ : ∃ z_, M 413 3 = z_ := ⟨_, rfl⟩
    have b1 : 1 ≤ v1 ∧ v1 ≤ 419 := by rw [← e1]; exact (CI.r hC_M (show kd 413 = 44 from rfl) (by decide) 3)
    have b2 : 1 ≤ v1 ∧ v1 ≤ 1 := by rw [← e1]; exact hy0
    obtain ⟨v3, e3⟩ : ∃ z_, M 0 1 = z_ := ⟨_, rfl⟩
    have b3 : 0 ≤ v3 ∧ v3 ≤ 1600 := by rw [← e3]; exact (CI.r hC_M (show kd 0 = 35 from rfl) (by decide) 1)
    refine jr.iload_n rfl rfl ?_
    refine jr.bipush rfl (by decide) ?_
    refine jr.icmp_gt rfl rfl (by omega) (by omega) (fun h25 => ?_) (fun h25 => ?_)
    · refine jr.aload_n rfl rfl ?_
      refine jr.getf (i := 10) (v := .ref 413) rfl rfl (by decide) rfl (by decide) rfl rfl rfl rfl ?_
      refine jr_v rfl rfl (Or.inl rfl) rfl rfl (by decide) rfl ⟨rfl, Nat.le_of_ble_eq_true rfl, Nat.le_of_ble_eq_true rfl⟩ rfl (jc.deep (c_Parser_resolveJumps hC_M (FR.rfl _ M)  (by have hq0 : M 413 3 = v1 := e1; omega) hy1 (fun M4 hC_M4 hf_M4 w4_0 w4_1 => ?_)) (by decide))
      have ht_M4 : FR W_c_PacketWall_rules_o T M4 := FR.t ht_M hf_M4 (kw_sub rfl)
      refine jr.aload_n rfl rfl ?_
      refine jr.getf (i := 10) (v := .ref 413) rfl rfl (by decide) rfl (by decide) rfl rfl rfl rfl ?_
      obtain ⟨v5, e5⟩ : ∃ z_, M4 413 0 = z_ := ⟨_, rfl⟩
      have b5 : (-2147483648) ≤ v5 ∧ v5 ≤ 2147483647 := by rw [← e5]; exact (CI.r hC_M4 (show kd 413 = 44 from rfl) (by decide) 0)
      refine jr.getf (i := 0) (x := v5) (v := .int (Int32.ofInt (v5))) rfl rfl (by decide) rfl (by decide) rfl rfl e5 rfl ?_
      refine jr.if_eq rfl rfl (by omega) (fun h66 => ?_) (fun h66 => ?_)
      · refine jr.aload_n rfl rfl ?_
        refine jr.getf (i := 11) (v := .ref 421) rfl rfl (by decide) rfl (by decide) rfl rfl rfl rfl ?_
        obtain ⟨v6, e6⟩ : ∃ z_, M 421 2 = z_ := ⟨_, rfl⟩
        have b6 : 0 ≤ v6 ∧ v6 ≤ 597 := by rw [← e6]; exact (CI.r hC_M (show kd 421 = 22 from rfl) (by decide) 2)
        have e7 : M4 421 2 = v6 := (hf_M4.g (show kd 421 = 22 from rfl) rfl).trans e6
        have k8 : kd (v6).toNat = 47 := ((congrArg (fun z : Int => kd z.toNat) (show M4 421 2 = v6 from e7)).symm.trans (CI.x hC_M4 (show kd 421 = 22 from rfl) 2 rfl (by decide)))
        refine jr.getf (i := 2) (x := v6) (v := .ref (v6.toNat)) rfl rfl (by decide) rfl (by decide) rfl rfl e7 rfl ?_
        refine jr.astore_n (ls' := [_, _]) rfl (by decide) rfl ?_
        refine jr.aload_n rfl rfl ?_
        refine jr.getf (i := 11) (v := .ref 421) rfl rfl (by decide) rfl (by decide) rfl rfl rfl rfl ?_
        refine jr.aload_n rfl rfl ?_
        refine jr.getf (i := 10) (v := .ref 413) rfl rfl (by decide) rfl (by decide) rfl rfl rfl rfl ?_
        obtain ⟨v9, e9⟩ : ∃ z_, M 413 2 = z_ := ⟨_, rfl⟩
        have b9 : 0 ≤ v9 ∧ v9 ≤ 597 := by rw [← e9]; exact (CI.r hC_M (show kd 413 = 44 from rfl) (by decide) 2)
        have e10 : M4 413 2 = v9 := (hf_M4.g (show kd 413 = 44 from rfl) rfl).trans e9
        have k11 : kd (v9).toNat = 47 := ((congrArg (fun z : Int => kd z.toNat) (show M4 413 2 = v9 from e10)).symm.trans (CI.x hC_M4 (show kd 413 = 44 from rfl) 2 rfl (by decide)))
        refine jr.getf (i := 2) (x := v9) (v := .ref (v9.toNat)) rfl rfl (by decide) rfl (by decide) rfl rfl e10 rfl ?_
        refine jr.putf (i := 2) (x := v9) rfl rfl (by decide) rfl (by decide) rfl rfl rfl rfl rfl ?_
        refine jr.aload_n rfl rfl ?_
        refine jr.getf (i := 10) (v := .ref 413) rfl rfl (by decide) rfl (by decide) rfl rfl rfl rfl ?_
        refine jr.aload_n rfl rfl ?_
        refine jr.putf (i := 2) (x := v6) rfl rfl (by decide) rfl (by decide) rfl rfl rfl rfl rfl ?_
        refine jr.aload_n rfl rfl ?_
        refine jr.getf (i := 11) (v := .ref 421) rfl rfl (by decide) rfl (by decide) rfl rfl rfl rfl ?_
        have k12 : kd (v9).toNat = 47 := ((congrArg (fun z : Int => kd z.toNat) (show (ju (ju M4 421 2 v9) 413 2 v6) 421 2 = v9 from ((ju_c _ _ (by decide)).trans (ju_same _ _ _ _)))).symm.trans (CI.x (CI.w (v := v6) (CI.w (v := v9) hC_M4 (i := 2) (show kd 421 = 22 from rfl) (show (0 : Int) ≤ _ ∧ _ ≤ (597 : Int) from by have hk := kd_lt (a := (v9).toNat) (by rw [k11]; decide); omega) k11) (i := 2) (show kd 413 = 44 from rfl) (show (0 : Int) ≤ _ ∧ _ ≤ (597 : Int) from by have hk := kd_lt (a := (v6).toNat) (by rw [k8]; decide); omega) k8) (show kd 421 = 22 from rfl) 2 rfl (by decide)))
        refine jr.getf (i := 2) (x := v9) (v := .ref (v9.toNat)) rfl rfl (by decide) rfl (by decide) rfl rfl ((ju_c _ _ (by decide)).trans (ju_same _ _ _ _)) rfl ?_
        obtain ⟨v13, e13⟩ : ∃ z_, M ((v9.toNat)) 3 = z_ := ⟨_, rfl⟩
        have b13 : 0 ≤ v13 ∧ v13 ≤ 16 := by rw [← e13]; exact (CI.r hC_M k12 (by decide) 3)
        have e14 : M4 ((v9.toNat)) 3 = v13 := (hf_M4.g k12 rfl).trans e13
        refine jr.getf (i := 3) (x := v13) (v := .int (Int32.ofInt (v13))) rfl rfl (Nat.lt_trans (kx_47 k12).1 (by decide)) (kx_47 k12).2 (by decide) rfl rfl ((ju_i _ _ (by decide)).trans ((ju_i _ _ (by decide)).trans e14)) rfl ?_
        have e15 : M4 0 1 = v3 := (hf_M4.g (show kd 0 = 35 from rfl) rfl).trans e3
        exact jr.ireturn rfl rfl rfl (q _ _ (CI.w (v := v6) (CI.w (v := v9) hC_M4 (i := 2) (show kd 421 = 22 from rfl) (show (0 : Int) ≤ _ ∧ _ ≤ (597 : Int) from by have hk := kd_lt (a := (v9).toNat) (by rw [k11]; decide); omega) k11) (i := 2) (show kd 413 = 44 from rfl) (show (0 : Int) ≤ _ ∧ _ ≤ (597 : Int) from by have hk := kd_lt (a := (v6).toNat) (by rw [k8]; decide); omega) k8) (FR.o (FR.o ht_M4 (show kd 421 = 22 from rfl) rfl) (show kd 413 = 44 from rfl) rfl) (by omega) (PC.sw w4_1 hC_M4 (by have hq : M4 413 0 = v5 := e5; omega) e10) (by have hne := w4_0.1; have h1 : M4 413 2 = v9 := e10; have h2 : M4 421 2 = v6 := e7; have h3 : (ju (ju M4 421 2 v9) 413 2 v6) 413 2 = v6 := (ju_same _ _ _ _); have h4 : (ju (ju M4 421 2 v9) 413 2 v6) 421 2 = v9 := ((ju_c _ _ (by decide)).trans (ju_same _ _ _ _)); omega) (by have hq : (ju (ju M4 421 2 v9) 413 2 v6) 0 1 = v3 := ((ju_c _ _ (by decide)).trans ((ju_c _ _ (by decide)).trans e15)); omega))
      · refine jr.bipush rfl (by decide) ?_
        refine jr.aload_n rfl rfl ?_
        refine jr.getf (i := 10) (v := .ref 413) rfl rfl (by decide) rfl (by decide) rfl rfl rfl rfl ?_
        refine jr.getf (i := 0) (x := v5) (v := .int (Int32.ofInt (v5))) rfl rfl (by decide) rfl (by decide) rfl rfl e5 rfl ?_
        refine jr.isub rfl ?_
        refine jr.iw (j_w ((-10) - v5)) (j_w_eq _) ?_
        have b16 : -2147483648 ≤ j_w ((-10) - v5) ∧ j_w ((-10) - v5) ≤ 2147483647 := jb_any _
        generalize j_w ((-10) - v5) = v16 at b16 ⊢
        have e17 : M4 0 1 = v3 := (hf_M4.g (show kd 0 = 35 from rfl) rfl).trans e3
        exact jr.ireturn rfl rfl rfl (q _ _ hC_M4 ht_M4 (by omega) (PC.g w4_0 hy2) w4_0.1 (by have hq : M4 0 1 = v3 := e17; omega))
    · refine jr.aload_n rfl rfl ?_
      refine jr.getf (i := 10) (v := .ref 413) rfl rfl (by decide) rfl (by decide) rfl rfl rfl rfl ?_
      refine jr.iload_n rfl rfl ?_
      refine jr_v rfl rfl (Or.inl rfl) rfl rfl (by decide) rfl ⟨rfl, Nat.le_of_ble_eq_true rfl, Nat.le_of_ble_eq_true rfl⟩ rfl (jc.deep (c_Parser_hasMore hC_M (by omega) (fun r18 z18  => ?_)) (by decide))
      refine jr.if_eq rfl rfl (by omega) (fun h36 => ?_) (fun h36 => ?_)
      · refine jr.aload_n rfl rfl ?_
        refine jr.getf (i := 10) (v := .ref 413) rfl rfl (by decide) rfl (by decide) rfl rfl rfl rfl ?_
        refine jr_v rfl rfl (Or.inl rfl) rfl rfl (by decide) rfl ⟨rfl, Nat.le_of_ble_eq_true rfl, Nat.le_of_ble_eq_true rfl⟩ rfl (jc.deep (c_Parser_resolveJumps hC_M (FR.rfl _ M)  (by have hq0 : M 413 3 = v1 := e1; omega) hy1 (fun M19 hC_M19 hf_M19 w19_0 w19_1 => ?_)) (by decide))
        have ht_M19 : FR W_c_PacketWall_rules_o T M19 := FR.t ht_M hf_M19 (kw_sub rfl)
        refine jr.aload_n rfl rfl ?_
        refine jr.getf (i := 10) (v := .ref 413) rfl rfl (by decide) rfl (by decide) rfl rfl rfl rfl ?_
        obtain ⟨v20, e20⟩ : ∃ z_, M19 413 0 = z_ := ⟨_, rfl⟩
        have b20 : (-2147483648) ≤ v20 ∧ v20 ≤ 2147483647 := by rw [← e20]; exact (CI.r hC_M19 (show kd 413 = 44 from rfl) (by decide) 0)
        refine jr.getf (i := 0) (x := v20) (v := .int (Int32.ofInt (v20))) rfl rfl (by decide) rfl (by decide) rfl rfl e20 rfl ?_
        refine jr.if_eq rfl rfl (by omega) (fun h66 => ?_) (fun h66 => ?_)
        · refine jr.aload_n rfl rfl ?_
          refine jr.getf (i := 11) (v := .ref 421) rfl rfl (by decide) rfl (by decide) rfl rfl rfl rfl ?_
          obtain ⟨v21, e21⟩ : ∃ z_, M 421 2 = z_ := ⟨_, rfl⟩
          have b21 : 0 ≤ v21 ∧ v21 ≤ 597 := by rw [← e21]; exact (CI.r hC_M (show kd 421 = 22 from rfl) (by decide) 2)
          have e22 : M19 421 2 = v21 := (hf_M19.g (show kd 421 = 22 from rfl) rfl).trans e21
          have k23 : kd (v21).toNat = 47 := ((congrArg (fun z : Int => kd z.toNat) (show M19 421 2 = v21 from e22)).symm.trans (CI.x hC_M19 (show kd 421 = 22 from rfl) 2 rfl (by decide)))
          refine jr.getf (i := 2) (x := v21) (v := .ref (v21.toNat)) rfl rfl (by decide) rfl (by decide) rfl rfl e22 rfl ?_
          refine jr.astore_n (ls' := [_, _]) rfl (by decide) rfl ?_
          refine jr.aload_n rfl rfl ?_
          refine jr.getf (i := 11) (v := .ref 421) rfl rfl (by decide) rfl (by decide) rfl rfl rfl rfl ?_
          refine jr.aload_n rfl rfl ?_
          refine jr.getf (i := 10) (v := .ref 413) rfl rfl (by decide) rfl (by decide) rfl rfl rfl rfl ?_
          obtain ⟨v24, e24⟩ : ∃ z_, M 413 2 = z_ := ⟨_, rfl⟩
          have b24 : 0 ≤ v24 ∧ v24 ≤ 597 := by rw [← e24]; exact (CI.r hC_M (show kd 413 = 44 from rfl) (by decide) 2)
          have e25 : M19 413 2 = v24 := (hf_M19.g (show kd 413 = 44 from rfl) rfl).trans e24
          have k26 : kd (v24).toNat = 47 := ((congrArg (fun z : Int => kd z.toNat) (show M19 413 2 = v24 from e25)).symm.trans (CI.x hC_M19 (show kd 413 = 44 from rfl) 2 rfl (by decide)))
          refine jr.getf (i := 2) (x := v24) (v := .ref (v24.toNat)) rfl rfl (by decide) rfl (by decide) rfl rfl e25 rfl ?_
          refine jr.putf (i := 2) (x := v24) rfl rfl (by decide) rfl (by decide) rfl rfl rfl rfl rfl ?_
          refine jr.aload_n rfl rfl ?_
          refine jr.getf (i := 10) (v := .ref 413) rfl rfl (by decide) rfl (by decide) rfl rfl rfl rfl ?_
          refine jr.aload_n rfl rfl ?_
          refine jr.putf (i := 2) (x := v21) rfl rfl (by decide) rfl (by decide) rfl rfl rfl rfl rfl ?_
          refine jr.aload_n rfl rfl ?_
          refine jr.getf (i := 11) (v := .ref 421) rfl rfl (by decide) rfl (by decide) rfl rfl rfl rfl ?_
          have k27 : kd (v24).toNat = 47 := ((congrArg (fun z : Int => kd z.toNat) (show (ju (ju M19 421 2 v24) 413 2 v21) 421 2 = v24 from ((ju_c _ _ (by decide)).trans (ju_same _ _ _ _)))).symm.trans (CI.x (CI.w (v := v21) (CI.w (v := v24) hC_M19 (i := 2) (show kd 421 = 22 from rfl) (show (0 : Int) ≤ _ ∧ _ ≤ (597 : Int) from by have hk := kd_lt (a := (v24).toNat) (by rw [k26]; decide); omega) k26) (i := 2) (show kd 413 = 44 from rfl) (show (0 : Int) ≤ _ ∧ _ ≤ (597 : Int) from by have hk := kd_lt (a := (v21).toNat) (by rw [k23]; decide); omega) k23) (show kd 421 = 22 from rfl) 2 rfl (by decide)))
          refine jr.getf (i := 2) (x := v24) (v := .ref (v24.toNat)) rfl rfl (by decide) rfl (by decide) rfl rfl ((ju_c _ _ (by decide)).trans (ju_same _ _ _ _)) rfl ?_
          obtain ⟨v28, e28⟩ : ∃ z_, M ((v24.toNat)) 3 = z_ := ⟨_, rfl⟩
          have b28 : 0 ≤ v28 ∧ v28 ≤ 16 := by rw [← e28]; exact (CI.r hC_M k27 (by decide) 3)
          have e29 : M19 ((v24.toNat)) 3 = v28 := (hf_M19.g k27 rfl).trans e28
          refine jr.getf (i := 3) (x := v28) (v := .int (Int32.ofInt (v28))) rfl rfl (Nat.lt_trans (kx_47 k27).1 (by decide)) (kx_47 k27).2 (by decide) rfl rfl ((ju_i _ _ (by decide)).trans ((ju_i _ _ (by decide)).trans e29)) rfl ?_
          have e30 : M19 0 1 = v3 := (hf_M19.g (show kd 0 = 35 from rfl) rfl).trans e3
          exact jr.ireturn rfl rfl rfl (q _ _ (CI.w (v := v21) (CI.w (v := v24) hC_M19 (i := 2) (show kd 421 = 22 from rfl) (show (0 : Int) ≤ _ ∧ _ ≤ (597 : Int) from by have hk := kd_lt (a := (v24).toNat) (by rw [k26]; decide); omega) k26) (i := 2) (show kd 413 = 44 from rfl) (show (0 : Int) ≤ _ ∧ _ ≤ (597 : Int) from by have hk := kd_lt (a := (v21).toNat) (by rw [k23]; decide); omega) k23) (FR.o (FR.o ht_M19 (show kd 421 = 22 from rfl) rfl) (show kd 413 = 44 from rfl) rfl) (by omega) (PC.sw w19_1 hC_M19 (by have hq : M19 413 0 = v20 := e20; omega) e25) (by have hne := w19_0.1; have h1 : M19 413 2 = v24 := e25; have h2 : M19 421 2 = v21 := e22; have h3 : (ju (ju M19 421 2 v24) 413 2 v21) 413 2 = v21 := (ju_same _ _ _ _); have h4 : (ju (ju M19 421 2 v24) 413 2 v21) 421 2 = v24 := ((ju_c _ _ (by decide)).trans (ju_same _ _ _ _)); omega) (by have hq : (ju (ju M19 421 2 v24) 413 2 v21) 0 1 = v3 := ((ju_c _ _ (by decide)).trans ((ju_c _ _ (by decide)).trans e30)); omega))
        · refine jr.bipush rfl (by decide) ?_
          refine jr.aload_n rfl rfl ?_
          refine jr.getf (i := 10) (v := .ref 413) rfl rfl (by decide) rfl (by decide) rfl rfl rfl rfl ?_
          refine jr.getf (i := 0) (x := v20) (v := .int (Int32.ofInt (v20))) rfl rfl (by decide) rfl (by decide) rfl rfl e20 rfl ?_
          refine jr.isub rfl ?_
          refine jr.iw (j_w ((-10) - v20)) (j_w_eq _) ?_
          have b31 : -2147483648 ≤ j_w ((-10) - v20) ∧ j_w ((-10) - v20) ≤ 2147483647 := jb_any _
          generalize j_w ((-10) - v20) = v31 at b31 ⊢
          have e32 : M19 0 1 = v3 := (hf_M19.g (show kd 0 = 35 from rfl) rfl).trans e3
          exact jr.ireturn rfl rfl rfl (q _ _ hC_M19 ht_M19 (by omega) (PC.g w19_0 hy2) w19_0.1 (by have hq : M19 0 1 = v3 := e32; omega))
      · have sx36 : (1 : Int) ≤ r18 := by omega
        clear h36
        refine jr.aload_n rfl rfl ?_
        refine jr.getf (i := 10) (v := .ref 413) rfl rfl (by decide) rfl (by decide) rfl rfl rfl rfl ?_
        refine jr_v rfl rfl (Or.inl rfl) rfl rfl (by decide) rfl ⟨rfl, Nat.le_of_ble_eq_true rfl, Nat.le_of_ble_eq_true rfl⟩ rfl (jc.deep (c_Parser_chain hC_M (FR.rfl _ M)  (by have hq0 : M 413 3 = v1 := e1; omega) hy1 (fun M33 hC_M33 hf_M33 w33_0 => ?_)) (by decide))
        have ht_M33 : FR W_c_PacketWall_rules_o T M33 := FR.t ht_M hf_M33 (kw_sub rfl)
        refine jr.iinc (ls' := [_, _]) rfl rfl (by decide) rfl ?_
        refine jr.goto rfl rfl ?_
        have e34 : M33 413 3 = v1 := (hf_M33.g (show kd 413 = 44 from rfl) rfl).trans e1
        have e35 : M33 0 1 = v3 := (hf_M33.g (show kd 0 = 35 from rfl) rfl).trans e3
        refine jr.pick (ls := [_, _]) [0, 1] rfl rfl ?_
        exact ih (nM - 1) (by omega) M33 (i + 1) hC_M33 ht_M33 (by omega) (by have hq0 : M33 413 3 = v1 := e34; omega) w33_0 hy2 (by have hq0 : M33 0 1 = v3 := e35; omega) (by omega)
end
