section
theorem c_Row_isOfHeaders {A : Nat → Option (Nat × (Nat → Int32))} {Q : Option Value → jm → Prop} {M : jm} (hC_M : CI M) {t : Nat} (k_t : kd t = 52) (q : ∀ (r : Int), 0 ≤ r ∧ r ≤ 1 → Q (some (.int (Int32.ofInt r))) M) : jc A 1 234 [.ref (t)] M Q := by
  refine jc_of (m := xm_234) rfl (Nat.le_of_ble_eq_true rfl) rfl ?_
  refine jr.aload_n rfl rfl ?_
  obtain ⟨v1, e1⟩ : ∃ z_, M t 0 = z_ := ⟨_, rfl⟩
  have b1 : (-2147483648) ≤ v1 ∧ v1 ≤ 2147483647 := by rw [← e1]; exact (CI.r hC_M k_t (by decide) 0)
  refine jr.getf (i := 0) (x := v1) (v := .int (Int32.ofInt (v1))) rfl rfl (Nat.lt_trans (kx_52 k_t).1 (by decide)) (kx_52 k_t).2 (by decide) rfl rfl e1 rfl ?_
  refine jr.iconst rfl ?_
  refine jr.icmp_lt rfl rfl (by omega) (by omega) (fun h5 => ?_) (fun h5 => ?_)
  · refine jr.iconst rfl ?_
    exact jr.ireturn rfl rfl rfl (q _ (by omega) )
  · refine jr.iconst rfl ?_
    refine jr.goto rfl rfl ?_
    exact jr.ireturn rfl rfl rfl (q _ (by omega) )
end
