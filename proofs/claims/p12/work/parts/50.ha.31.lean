section
theorem c_Flows_countLive_L4 {A : Nat → Option (Nat × (Nat → Int32))} {Q : Option Value → jm → Prop} {M : jm} (hC_M : CI M) (q : ∀ (r : Int), 0 ≤ r ∧ r ≤ 24 → Q (some (.int (Int32.ofInt r))) M) : ∀ (nM : Nat) (c : Int) (i : Int), 0 ≤ c ∧ c ≤ 24 → 0 ≤ i ∧ i ≤ 24 → (c ≤ i) → 24 - i ≤ nM → jr A 0 xm_75 4 [(1, .int (Int32.ofInt (c))), (2, .int (Int32.ofInt (i))), (0, .ref (15))] [] M Q := by
  intro nM
  induction nM using Nat.strongRecOn with
  | ind nM ih =>
    intro c i h_c h_i hy0 hm
    refine jr.iload_n rfl rfl ?_
    refine jr.bipush rfl (by decide) ?_
    refine jr.icmp_ge rfl rfl (by omega) (by omega) (fun h7 => ?_) (fun h7 => ?_)
    · refine jr.iload_n rfl rfl ?_
      exact jr.ireturn rfl rfl rfl (q _ (by omega) )
    · refine jr.iload_n rfl rfl ?_
      refine jr.aload_n rfl rfl ?_
      obtain ⟨v1, e1⟩ : ∃ z_, M 15 0 = z_ := ⟨_, rfl⟩
      have b1 : 16 ≤ v1 ∧ v1 ≤ 17 := by rw [← e1]; exact (CI.r hC_M (show kd 15 = 9 from rfl) (by decide) 0)
      have k2 : kd (v1).toNat = 13 := by rcases (show v1 = 16 ∨ v1 = 17 by omega) with h | h <;> (rw [h]; rfl)
      refine jr.getf (i := 0) (x := v1) (v := .ref (v1.toNat)) rfl rfl (by decide) rfl (by decide) rfl rfl e1 rfl ?_
      refine jr.iload_n rfl rfl ?_
      have k3 := kxe_13 k2 (i := i) (by omega) (by omega)
      refine jr.aald (c := (xe ((v1.toNat)) i)) rfl (Nat.lt_trans (kx_13 k2).1 (by decide)) (kx_13 k2).2 (by decide) (by decide) rfl (by decide) (by omega) (by omega) k3.1 ?_
      obtain ⟨v4, e4⟩ : ∃ z_, M ((xe ((v1.toNat)) i)) 0 = z_ := ⟨_, rfl⟩
      have b4 : 0 ≤ v4 ∧ v4 ≤ 1 := by rw [← e4]; exact (CI.r hC_M k3.2 (by decide) 0)
      refine jr.getf (i := 0) (x := v4) (v := .int (Int32.ofInt (v4))) rfl rfl (Nat.lt_trans (kx_1 k3.2).1 (by decide)) (kx_1 k3.2).2 (by decide) rfl rfl e4 rfl ?_
      refine jr.if_eq rfl rfl (by omega) (fun h20 => ?_) (fun h20 => ?_)
      · refine jr.iconst rfl ?_
        refine jr.iadd rfl ?_
        refine jr.istore_n (ls' := [_, _, _]) rfl (by decide) rfl ?_
        refine jr.iinc (ls' := [_, _, _]) rfl rfl (by decide) rfl ?_
        refine jr.goto rfl rfl ?_
        refine jr.pick (ls := [_, _, _]) [1, 0, 2] rfl rfl ?_
        exact ih (nM - 1) (by omega) (c + 0) (i + 1) (by omega) (by omega) (by omega) (by omega)
      · have sx20 : (1 : Int) ≤ v4 := by omega
        clear h20
        refine jr.iconst rfl ?_
        refine jr.goto rfl rfl ?_
        refine jr.iadd rfl ?_
        refine jr.istore_n (ls' := [_, _, _]) rfl (by decide) rfl ?_
        refine jr.iinc (ls' := [_, _, _]) rfl rfl (by decide) rfl ?_
        refine jr.goto rfl rfl ?_
        refine jr.pick (ls := [_, _, _]) [1, 0, 2] rfl rfl ?_
        exact ih (nM - 1) (by omega) (c + 1) (i + 1) (by omega) (by omega) (by omega) (by omega)
end
