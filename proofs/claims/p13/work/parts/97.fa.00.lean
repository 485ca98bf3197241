section
/-! ===== the class: flows: figures, pools, change ===== -/
noncomputable def fgF (M : jm) (t : Nat) (x y : Int) : Int := if x = 0 then M t 2 else if x = 1 then M t 5 else if x = 2 then M (t + 2) 0 else if x = 3 then M (t + 2) 1 else if x = 4 then j_w (M t 6 - y) else if x = 5 then M (t + 3) 0 else if x = 6 then M (t + 3) 1 else if x = 7 then M (t + 5) 0 else if x = 8 then M (t + 5) 1 else if x = 9 then M t 15 else if x = 10 then (if M t 1 = 0 then 0 else 1) else -3
noncomputable def fgL (M : jm) (t : Nat) (x : Int) : Int := if x = 0 then M (t + 1) 0 else if x = 1 then M (t + 1) 1 else if x = 2 then M (t + 6) 0 else if x = 3 then M (t + 6) 1 else if x = 4 then M (t + 7) 0 else if x = 5 then M (t + 7) 1 else -1
theorem c_Flows_isLive_x {A : Nat → Option (Nat × (Nat → Int32))} {Q : Option Value → jm → Prop} {M : jm} (hC_M : CI M) {x : Int} (h_x : (-2147483648) ≤ x ∧ x ≤ 2147483647) {V : Int} (g_V : M 15 0 = V) (q : ∀ (r : Int), 0 ≤ r ∧ r ≤ 1 → (r = 0 ∨ (0 ≤ x ∧ x ≤ 23)) → ((r = 1 ∧ (0 ≤ x ∧ x ≤ 23) ∧ M (xe (V.toNat) x) 0 ≠ 0) ∨ (r = 0 ∧ (x < 0 ∨ 23 < x ∨ M (xe (V.toNat) x) 0 = 0))) → Q (some (.int (Int32.ofInt r))) M) : jc A 1 74 [.ref (15), .int (Int32.ofInt (x))] M Q := by
  refine jc_of (m := xm_74) rfl (Nat.le_of_ble_eq_true rfl) rfl ?_
  have b_V : 16 ≤ V ∧ V ≤ 17 := by rw [← g_V]; exact (CI.r hC_M (show kd 15 = 9 from rfl) (by decide) 0)
  refine jr.iload_n rfl rfl ?_
  refine jr.if_lt rfl rfl (by omega) (fun h1 => ?_) (fun h1 => ?_)
  · refine jr.iconst rfl ?_
    exact jr.ireturn rfl rfl rfl (q _ (by omega) (by omega) (by omega))
  · refine jr.iload_n rfl rfl ?_
    refine jr.bipush rfl (by decide) ?_
    refine jr.icmp_ge rfl rfl (by omega) (by omega) (fun h7 => ?_) (fun h7 => ?_)
    · refine jr.iconst rfl ?_
      exact jr.ireturn rfl rfl rfl (q _ (by omega) (by omega) (by omega))
    · refine jr.aload_n rfl rfl ?_
      have k1 : kd (V).toNat = 13 := by rcases (show V = 16 ∨ V = 17 by omega) with h | h <;> (rw [h]; rfl)
      refine jr.getf (i := 0) (x := V) (v := .ref (V.toNat)) rfl rfl (by decide) rfl (by decide) rfl rfl g_V rfl ?_
      refine jr.iload_n rfl rfl ?_
      have k2 := kxe_13 k1 (i := x) (by omega) (by omega)
      refine jr.aald (c := (xe ((V.toNat)) x)) rfl (Nat.lt_trans (kx_13 k1).1 (by decide)) (kx_13 k1).2 (by decide) (by decide) rfl (by decide) (by omega) (by omega) k2.1 ?_
      obtain ⟨v3, e3⟩ : ∃ z_, M ((xe ((V.toNat)) x)) 0 = z_ := ⟨_, rfl⟩
      have b3 : 0 ≤ v3 ∧ v3 ≤ 1 := by rw [← e3]; exact (CI.r hC_M k2.2 (by decide) 0)
      refine jr.getf (i := 0) (x := v3) (v := .int (Int32.ofInt (v3))) rfl rfl (Nat.lt_trans (kx_1 k2.2).1 (by decide)) (kx_1 k2.2).2 (by decide) rfl rfl e3 rfl ?_
      refine jr.if_eq rfl rfl (by omega) (fun h19 => ?_) (fun h19 => ?_)
      · refine jr.iconst rfl ?_
        exact jr.ireturn rfl rfl rfl (q _ (by omega) (by omega) (by omega))
      · have sx19 : (1 : Int) ≤ v3 := by omega
        clear h19
        refine jr.iconst rfl ?_
        refine jr.goto rfl rfl ?_
        exact jr.ireturn rfl rfl rfl (q _ (by omega) (by omega) (by omega))
end
