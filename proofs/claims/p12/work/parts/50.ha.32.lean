section
theorem c_Flows_countLive {A : Nat → Option (Nat × (Nat → Int32))} {Q : Option Value → jm → Prop} {M : jm} (hC_M : CI M) (q : ∀ (r : Int), 0 ≤ r ∧ r ≤ 24 → Q (some (.int (Int32.ofInt r))) M) : jc A 1 75 [.ref (15)] M Q := by
  refine jc_of (m := xm_75) rfl (Nat.le_of_ble_eq_true rfl) rfl ?_
  refine jr.iconst rfl ?_
  refine jr.istore_n (ls' := [_, _]) rfl (by decide) rfl ?_
  refine jr.iconst rfl ?_
  refine jr.istore_n (ls' := [_, _, _]) rfl (by decide) rfl ?_
  refine jr.pick (ls := [_, _, _]) [1, 0, 2] rfl rfl ?_
  exact c_Flows_countLive_L4 hC_M  q 24 0 0 (by omega) (by omega) (by omega) (by omega)
end

