section
theorem c_PacketWall_rules_o {A : Nat → Option (Nat × (Nat → Int32))} [HA A] {Q : Option Value → jm → Prop} {T : jm} {M : jm} (hC_M : CI M) (ht_M : FR W_c_PacketWall_rules_o T M) (p0 : PC M ) (p1 : M 413 2 ≠ M 421 2) (q : ∀ (r : Int) (M' : jm), CI M' → FR W_c_PacketWall_rules_o T M' → (-2147483648) ≤ r ∧ r ≤ 2147483647 → (PC M' ) → (M' 413 2 ≠ M' 421 2) → (M' 0 1 = 0) → Q (some (.int (Int32.ofInt r))) M') : jc A 362 26 [.ref (0)] M Q := by
  refine jc_of (m := xm_26) rfl (Nat.le_of_ble_eq_true rfl) rfl ?_
  obtain ⟨v1, e1⟩ : ∃ z_, M 413 2 = z_ := ⟨_, rfl⟩
  have b1 : 0 ≤ v1 ∧ v1 ≤ 597 := by rw [← e1]; exact (CI.r hC_M (show kd 413 = 44 from rfl) (by decide) 2)
  obtain ⟨v2, e2⟩ : ∃ z_, M 421 2 = z_ := ⟨_, rfl⟩
  have b2 : 0 ≤ v2 ∧ v2 ≤ 597 := by rw [← e2]; exact (CI.r hC_M (show kd 421 = 22 from rfl) (by decide) 2)
  have hG : MP M (fun d k => M ((M 421 2).toNat + d) k) := ⟨p1, fun _ _ _ => rfl⟩
  refine jr.aload_n rfl rfl ?_
  refine jr.getf (i := 10) (v := .ref 413) rfl rfl (by decide) rfl (by decide) rfl rfl rfl rfl ?_
  refine jr.aload_n rfl rfl ?_
  refine jr.getf (i := 0) (v := .ref 1) rfl rfl (by decide) rfl (by decide) rfl rfl rfl rfl ?_
  refine jr.aload_n rfl rfl ?_
  obtain ⟨v3, e3⟩ : ∃ z_, M 0 1 = z_ := ⟨_, rfl⟩
  have b3 : 0 ≤ v3 ∧ v3 ≤ 1600 := by rw [← e3]; exact (CI.r hC_M (show kd 0 = 35 from rfl) (by decide) 1)
  refine jr.getf (i := 1) (x := v3) (v := .int (Int32.ofInt (v3))) rfl rfl (by decide) rfl (by decide) rfl rfl e3 rfl ?_
  refine jr_v rfl rfl (Or.inl rfl) rfl rfl (by decide) rfl ⟨rfl, Nat.le_of_ble_eq_true rfl, Nat.le_of_ble_eq_true rfl⟩ rfl (jc.deep (c_Parser_begin hC_M (FR.rfl _ M) (by omega) hG (fun M4 hC_M4 hf_M4 w4_0 w4_1 => ?_)) (by decide))
  have ht_M4 : FR W_c_PacketWall_rules_o T M4 := FR.t ht_M hf_M4 (kw_sub rfl)
  obtain ⟨v5, e5⟩ : ∃ z_, M4 413 3 = z_ := ⟨_, rfl⟩
  have b5 : 1 ≤ v5 ∧ v5 ≤ 419 := by rw [← e5]; exact (CI.r hC_M4 (show kd 413 = 44 from rfl) (by decide) 3)
  have b6 : 1 ≤ v5 ∧ v5 ≤ 1 := by rw [← e5]; exact w4_1
  refine jr.aload_n rfl rfl ?_
  refine jr.iconst rfl ?_
  refine jr.putf (i := 1) (x := 0) rfl rfl (by decide) rfl (by decide) rfl rfl rfl rfl rfl ?_
  refine jr.iconst rfl ?_
  refine jr.istore_n (ls' := [_, _]) rfl (by decide) rfl ?_
  refine jr.pick (ls := [_, _]) [0, 1] rfl rfl ?_
  exact c_PacketWall_rules_o_L22  q 17 ((ju M4 0 1 0)) 0 (CI.u hC_M4 (i := 1) (show kd 0 = 35 from rfl) (show (0 : Int) ≤ _ ∧ _ ≤ (1600 : Int) from by omega) rfl) (FR.o ht_M4 (show kd 0 = 35 from rfl) rfl) (by omega) (by have hq0 : (ju M4 0 1 0) 413 3 = v5 := ((ju_c _ _ (by decide)).trans e5); omega) (MP.n w4_0 hC_M4 (show kd 0 = 35 from rfl) (by decide) (Or.inl (by decide))) (PG.o p0) (by have hq0 : (ju M4 0 1 0) 0 1 = 0 := (ju_same _ _ _ _); omega) (by omega)
end

