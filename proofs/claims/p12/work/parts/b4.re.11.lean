section
noncomputable def W_c_Flows_flowOf_o : List (Nat × Nat) := [(1, 1), (1, 2), (2, 1000), (7, 1000), (9, 3), (9, 4), (9, 5)]
theorem c_Flows_flowOf_o {A : Nat → Option (Nat × (Nat → Int32))} {Q : Option Value → jm → Prop} {T : jm} {M : jm} (hC_M : CI M) (ht_M : FR W_c_Flows_flowOf_o T M) {x : Nat} (k_x : kd x = 18) (p0 : T = M) (q : ∀ (r : Int) (M' : jm), CI M' → FR W_c_Flows_flowOf_o T M' → (-2147483648) ≤ r ∧ r ≤ 2147483647 → (OL T M') → Q (some (.int (Int32.ofInt r))) M') : jc A 6 78 [.ref (15), .ref (x)] M Q := by
  refine jc_of (m := xm_78) rfl (Nat.le_of_ble_eq_true rfl) rfl ?_
  refine jr.aload_n rfl rfl ?_
  refine jr.aload_n rfl rfl ?_
  refine jr_v rfl rfl (Or.inl rfl) rfl rfl (by decide) rfl ⟨rfl, Nat.le_of_ble_eq_true rfl, Nat.le_of_ble_eq_true rfl⟩ rfl (jc.deep (c_Flows_findEnds_o hC_M (FR.rfl _ M) k_x rfl (fun r1 M1 hC_M1 hf_M1 z1 w1_0 => ?_)) (by decide))
  have ht_M1 : FR W_c_Flows_flowOf_o T M1 := FR.t ht_M hf_M1 (kw_sub rfl)
  refine jr.if_eq rfl rfl (by omega) (fun h5 => ?_) (fun h5 => ?_)
  · refine jr.iconst rfl ?_
    exact jr.ireturn rfl rfl rfl (q _ _ hC_M1 ht_M1 (by omega) (by rw [p0]; exact w1_0))
  · have sx5 : (1 : Int) ≤ r1 := by omega
    clear h5
    refine jr.aload_n rfl rfl ?_
    obtain ⟨v3, e3⟩ : ∃ z_, M 15 0 = z_ := ⟨_, rfl⟩
    have b3 : 16 ≤ v3 ∧ v3 ≤ 17 := by rw [← e3]; exact (CI.r hC_M (show kd 15 = 9 from rfl) (by decide) 0)
    have e4 : M1 15 0 = v3 := (hf_M1.g (show kd 15 = 9 from rfl) rfl).trans e3
    refine jr_v rfl rfl (Or.inl rfl) rfl rfl (by decide) rfl ⟨rfl, Nat.le_of_ble_eq_true rfl, Nat.le_of_ble_eq_true rfl⟩ rfl (jc.deep (c_Flows_flowOfEnds hC_M1  e4 (fun r2 z2 w2_0 => ?_)) (by decide))
    refine jr.goto rfl rfl ?_
    exact jr.ireturn rfl rfl rfl (q _ _ hC_M1 ht_M1 (by omega) (by rw [p0]; exact w1_0))
noncomputable def W_c_PacketWall_verdict_o : List (Nat × Nat) := [(1, 1), (1, 2), (2, 1000), (7, 1000), (9, 3), (9, 4), (9, 5), (14, 0), (14, 1), (14, 2), (18, 3), (18, 4), (18, 5), (18, 6), (18, 7), (19, 1000), (20, 1000), (21, 1000), (22, 3), (22, 4), (22, 5), (22, 7), (22, 9), (22, 11), (22, 12), (22, 13), (22, 14), (22, 15), (22, 16), (22, 17), (22, 18), (22, 19), (24, 1000), (26, 1000), (27, 5), (27, 6), (28, 1000), (29, 1000), (30, 1000), (31, 1000), (32, 1000), (33, 2), (52, 0), (52, 1), (53, 1000), (54, 1000)]
theorem c_PacketWall_verdict_o {A : Nat → Option (Nat × (Nat → Int32))} {Q : Option Value → jm → Prop} {L : Int} {T : jm} {M : jm} (hC_M : CI M) (ht_M : FR W_c_PacketWall_verdict_o T M) {x : Int} (h_x : (-2147483648) ≤ x ∧ x ≤ 2147483647) (p0 : 0 ≤ M 421 4 ∧ M 421 4 ≤ 0) (p1 : LC M L) (p2 : L + 1000000 ≤ 2000000000) (p3 : PC M ) (p4 : T = M) (q : ∀ (r : Int) (M' : jm), CI M' → FR W_c_PacketWall_verdict_o T M' → (-2147483648) ≤ r ∧ r ≤ 2147483647 → (LC M' (L + 1000000)) → (0 ≤ M' 421 4 ∧ M' 421 4 ≤ 0) → (OL T M') → Q (some (.int (Int32.ofInt r))) M') : jc A 8 28 [.ref (0), .int (Int32.ofInt (x))] M Q := by
  refine jc_of (m := xm_28) rfl (Nat.le_of_ble_eq_true rfl) rfl ?_
  obtain ⟨v1, e1⟩ : ∃ z_, M 421 4 = z_ := ⟨_, rfl⟩
  have b1 : 0 ≤ v1 ∧ v1 ≤ 1 := by rw [← e1]; exact (CI.r hC_M (show kd 421 = 22 from rfl) (by decide) 4)
  have b2 : 0 ≤ v1 ∧ v1 ≤ 0 := by rw [← e1]; exact p0
  refine jr.iload_n rfl rfl ?_
  refine jr.if_lt rfl rfl (by omega) (fun h1 => ?_) (fun h1 => ?_)
  · refine jr.bipush rfl (by decide) ?_
    exact jr.ireturn rfl rfl rfl (q _ _ hC_M ht_M (by omega) (LC.le p1 (by omega)) (by have hq0 : M 421 4 = v1 := e1; omega) (fun b k _ _ => by rw [p4]))
  · refine jr.iload_n rfl rfl ?_
    refine jr.bipush rfl (by decide) ?_
    refine jr.icmp_lt rfl rfl (by omega) (by omega) (fun h7 => ?_) (fun h7 => ?_)
    · refine jr.aload_n rfl rfl ?_
      refine jr.getf (i := 11) (v := .ref 421) rfl rfl (by decide) rfl (by decide) rfl rfl rfl rfl ?_
      obtain ⟨v3, e3⟩ : ∃ z_, M 421 2 = z_ := ⟨_, rfl⟩
      have b3 : 0 ≤ v3 ∧ v3 ≤ 597 := by rw [← e3]; exact (CI.r hC_M (show kd 421 = 22 from rfl) (by decide) 2)
      have k4 : kd (v3).toNat = 47 := ((congrArg (fun z : Int => kd z.toNat) (show M 421 2 = v3 from e3)).symm.trans (CI.x hC_M (show kd 421 = 22 from rfl) 2 rfl (by decide)))
      refine jr.getf (i := 2) (x := v3) (v := .ref (v3.toNat)) rfl rfl (by decide) rfl (by decide) rfl rfl e3 rfl ?_
      obtain ⟨v5, e5⟩ : ∃ z_, M ((v3.toNat)) 3 = z_ := ⟨_, rfl⟩
      have b5 : 0 ≤ v5 ∧ v5 ≤ 16 := by rw [← e5]; exact (CI.r hC_M k4 (by decide) 3)
      refine jr.getf (i := 3) (x := v5) (v := .int (Int32.ofInt (v5))) rfl rfl (Nat.lt_trans (kx_47 k4).1 (by decide)) (kx_47 k4).2 (by decide) rfl rfl e5 rfl ?_
      refine jr.if_eq rfl rfl (by omega) (fun h23 => ?_) (fun h23 => ?_)
      · refine jr.bipush rfl (by decide) ?_
        exact jr.ireturn rfl rfl rfl (q _ _ hC_M ht_M (by omega) (LC.le p1 (by omega)) (by have hq0 : M 421 4 = v1 := e1; omega) (fun b k _ _ => by rw [p4]))
      · have sx23 : (1 : Int) ≤ v5 := by omega
        clear h23
        refine jr.aload_n rfl rfl ?_
        refine jr.getf (i := 11) (v := .ref 421) rfl rfl (by decide) rfl (by decide) rfl rfl rfl rfl ?_
        refine jr_v rfl rfl (Or.inl rfl) rfl rfl (by decide) rfl ⟨rfl, Nat.le_of_ble_eq_true rfl, Nat.le_of_ble_eq_true rfl⟩ rfl (jc.deep (c_Machine_hasNoFailureLeft hC_M  (fun r6 z6  => ?_)) (by decide))
        refine jr.if_eq rfl rfl (by omega) (fun h33 => ?_) (fun h33 => ?_)
        · refine jr.aload_n rfl rfl ?_
          refine jr.getf (i := 3) (v := .ref 3) rfl rfl (by decide) rfl (by decide) rfl rfl rfl rfl ?_
          refine jr.aload_n rfl rfl ?_
          refine jr.getf (i := 2) (v := .ref 2) rfl rfl (by decide) rfl (by decide) rfl rfl rfl rfl ?_
          refine jr.iload_n rfl rfl ?_
          have k7 := kxe_42 (a := 2) rfl (i := x) (by omega) (by omega)
          refine jr.aald (c := (xe 2 x)) rfl (by decide) rfl (by decide) (by decide) rfl (by decide) (by omega) (by omega) k7.1 ?_
          refine jr_v rfl rfl (Or.inl rfl) rfl rfl (by decide) rfl ⟨rfl, Nat.le_of_ble_eq_true rfl, Nat.le_of_ble_eq_true rfl⟩ rfl (jc.deep (c_Headers_readAll hC_M (FR.rfl _ M) (show kd 3 = 18 from rfl) k7.2 (fun M8 hC_M8 hf_M8 w8_0 => ?_)) (by decide))
          have ht_M8 : FR W_c_PacketWall_verdict_o T M8 := FR.t ht_M hf_M8 (kw_sub rfl)
          refine jr.aload_n rfl rfl ?_
          refine jr.getf (i := 9) (v := .ref 15) rfl rfl (by decide) rfl (by decide) rfl rfl rfl rfl ?_
          refine jr.aload_n rfl rfl ?_
          refine jr.getf (i := 3) (v := .ref 3) rfl rfl (by decide) rfl (by decide) rfl rfl rfl rfl ?_
          refine jr_v rfl rfl (Or.inl rfl) rfl rfl (by decide) rfl ⟨rfl, Nat.le_of_ble_eq_true rfl, Nat.le_of_ble_eq_true rfl⟩ rfl (jc.deep (c_Flows_flowOf_o hC_M8 (FR.rfl _ M8) (show kd 3 = 18 from rfl) rfl (fun r9 M9 hC_M9 hf_M9 z9 w9_0 => ?_)) (by decide))
          have ht_M9 : FR W_c_PacketWall_verdict_o T M9 := FR.t ht_M8 hf_M9 (kw_sub rfl)
          refine jr.istore_n (ls' := [_, _, _]) rfl (by decide) rfl ?_
          refine jr.aload_n rfl rfl ?_
          refine jr.getf (i := 11) (v := .ref 421) rfl rfl (by decide) rfl (by decide) rfl rfl rfl rfl ?_
          refine jr.aload_n rfl rfl ?_
          refine jr.getf (i := 3) (v := .ref 3) rfl rfl (by decide) rfl (by decide) rfl rfl rfl rfl ?_
          refine jr.iload_n rfl rfl ?_
          refine jr.aload_n rfl rfl ?_
          refine jr.getf (i := 9) (v := .ref 15) rfl rfl (by decide) rfl (by decide) rfl rfl rfl rfl ?_
          refine jr.iload_n rfl rfl ?_
          refine jr_v rfl rfl (Or.inl rfl) rfl rfl (by decide) rfl ⟨rfl, Nat.le_of_ble_eq_true rfl, Nat.le_of_ble_eq_true rfl⟩ rfl (jc.deep (c_Flows_stateOf hC_M9 (by omega) (fun r10 z10  => ?_)) (by decide))
          refine jr.aload_n rfl rfl ?_
          obtain ⟨v11, e11⟩ : ∃ z_, M 0 8 = z_ := ⟨_, rfl⟩
          have b11 : (-2147483648) ≤ v11 ∧ v11 ≤ 2147483647 := by rw [← e11]; exact (CI.r hC_M (show kd 0 = 35 from rfl) (by decide) 8)
          have e12 : M8 0 8 = v11 := (hf_M8.g (show kd 0 = 35 from rfl) rfl).trans e11
          have e13 : M9 0 8 = v11 := (hf_M9.g (show kd 0 = 35 from rfl) rfl).trans e12
          refine jr.getf (i := 8) (x := v11) (v := .int (Int32.ofInt (v11))) rfl rfl (by decide) rfl (by decide) rfl rfl e13 rfl ?_
          have e15 : M8 421 4 = v1 := (hf_M8.g (show kd 421 = 22 from rfl) rfl).trans e1
          have e16 : M9 421 4 = v1 := (hf_M9.g (show kd 421 = 22 from rfl) rfl).trans e15
          refine jr_v rfl rfl (Or.inl rfl) rfl rfl (by decide) rfl ⟨rfl, Nat.le_of_ble_eq_true rfl, Nat.le_of_ble_eq_true rfl⟩ rfl (jc.deep (c_Machine_judge hC_M9 (FR.rfl _ M9) (show kd 3 = 18 from rfl) (by omega) (by omega) (by omega) (by have hq0 : M9 421 4 = v1 := e16; omega) (LC.fr (LC.fr p1 hf_M8 rfl) hf_M9 rfl) (by omega) (PC.fr (PC.fr p3 hC_M hf_M8 rfl) hC_M8 hf_M9 rfl) (fun r14 M14 hC_M14 hf_M14 z14 w14_0 w14_1 => ?_)) (by decide))
          have ht_M14 : FR W_c_PacketWall_verdict_o T M14 := FR.t ht_M9 hf_M14 (kw_sub rfl)
          obtain ⟨v17, e17⟩ : ∃ z_, M14 421 4 = z_ := ⟨_, rfl⟩
          have b17 : 0 ≤ v17 ∧ v17 ≤ 1 := by rw [← e17]; exact (CI.r hC_M14 (show kd 421 = 22 from rfl) (by decide) 4)
          have b18 : 0 ≤ v17 ∧ v17 ≤ 0 := by rw [← e17]; exact w14_1
          exact jr.ireturn rfl rfl rfl (q _ _ hC_M14 ht_M14 (by omega) (LC.le w14_0 (by omega)) (by have hq0 : M14 421 4 = v17 := e17; omega) (by rw [p4]; exact OL.t (OL.f hf_M8 rfl) (OL.t w9_0 (OL.f hf_M14 rfl))))
        · have sx33 : (1 : Int) ≤ r6 := by omega
          clear h33
          refine jr.bipush rfl (by decide) ?_
          exact jr.ireturn rfl rfl rfl (q _ _ hC_M ht_M (by omega) (LC.le p1 (by omega)) (by have hq0 : M 421 4 = v1 := e1; omega) (fun b k _ _ => by rw [p4]))
    · refine jr.bipush rfl (by decide) ?_
      exact jr.ireturn rfl rfl rfl (q _ _ hC_M ht_M (by omega) (LC.le p1 (by omega)) (by have hq0 : M 421 4 = v1 := e1; omega) (fun b k _ _ => by rw [p4]))
noncomputable def W_c_PacketWall_rules_o : List (Nat × Nat) := [(22, 2), (35, 1), (44, 0), (44, 1), (44, 2), (44, 3), (44, 4), (44, 6), (44, 7), (44, 8), (44, 9), (44, 10), (44, 11), (45, 1000), (47, 2), (47, 3), (47, 4), (48, 1000), (49, 1000), (50, 1000), (51, 1000)]
end
