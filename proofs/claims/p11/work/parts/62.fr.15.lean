section
/-! ===== headers: a step, whole ===== -/
theorem hls_v (x : Int) : (x ≠ 2 ∨ hls x = 20) ∧ (x ≠ 3 ∨ hls x = 24) ∧ (x ≠ 9 ∨ hls x = 8) := by
  unfold hls
  (repeat' split) <;> omega
theorem hsF_e {f : Int → Int} {n c bk k a : Int} (h : c < 12 ∧ ¬ ((k = 4 ∧ bk ≠ 3) ∨ ((k = 6 ∨ k = 5) ∧ bk ≠ 3 ∧ bk ≠ 4 ∧ bk ≠ 5)) ∧ ¬ ((k = 2 ∨ k = 3) ∧ n < a + 1) ∧ ¬ ((k = 2 ∧ hb f n a / 16 ≠ 4) ∨ (k = 3 ∧ hb f n a / 16 ≠ 6)) ∧ 0 ≤ n) (h2 : a + hls k ≤ n) (h3 : ¬ ((k = 2 ∨ k = 8) ∧ hsZ f n k a < 20)) (h4 : a + hsZ f n k a ≤ n) : hsF f n c bk k a = (if ((k = 2 ∧ tw f (a + 2) ≠ n - a) ∨ (k = 3 ∧ tw f (a + 2) ≠ n - a - 24) ∨ (k = 9 ∧ tw f (a + 4) ≠ n - a)) then 5 else 0) ∧ hsW f n c bk k a = (if k = 9 then a + 4 else a + 2) := by
  obtain ⟨g0, g1, g2, g3, g4⟩ := h
  have c0 : ¬ 12 ≤ c := by omega
  have c4 : ¬ n < a + hls k := by omega
  have c6 : ¬ n < a + hsZ f n k a := by omega
  refine ⟨?_, ?_⟩
  · unfold hsF
    rw [if_neg c0, if_neg g1, if_neg g2, if_neg g3, if_neg c4, if_neg h3, if_neg c6]
  · unfold hsW
    rw [if_neg c0, if_neg g1, if_neg g2, if_neg g3, if_neg c4, if_neg h3, if_neg c6]
theorem c_PacketWall_isNetKind_x {A : Nat → Option (Nat × (Nat → Int32))} {Q : Option Value → jm → Prop} {M : jm} (hC_M : CI M) {x : Int} (h_x : (-2147483648) ≤ x ∧ x ≤ 2147483647) (q : ∀ (r : Int), 0 ≤ r ∧ r ≤ 1 → (r = 0 ∨ (2 ≤ x ∧ x ≤ 3)) → ((r = 1 ∧ (x = 2 ∨ x = 3)) ∨ (r = 0 ∧ x ≠ 2 ∧ x ≠ 3)) → Q (some (.int (Int32.ofInt r))) M) : jc A 1 50 [.int (Int32.ofInt (x))] M Q := by
  refine jc_of (m := xm_50) rfl (Nat.le_of_ble_eq_true rfl) rfl ?_
  refine jr.iload_n rfl rfl ?_
  refine jr.iconst rfl ?_
  refine jr.icmp_eq rfl rfl (by omega) (by omega) (fun h2 => ?_) (fun h2 => ?_)
  · refine jr.iconst rfl ?_
    refine jr.goto rfl rfl ?_
    exact jr.ireturn rfl rfl rfl (q _ (by omega) (by omega) (by omega))
  · refine jr.iload_n rfl rfl ?_
    refine jr.iconst rfl ?_
    refine jr.icmp_ne rfl rfl (by omega) (by omega) (fun h7 => ?_) (fun h7 => ?_)
    · refine jr.iconst rfl ?_
      exact jr.ireturn rfl rfl rfl (q _ (by omega) (by omega) (by omega))
    · refine jr.iconst rfl ?_
      refine jr.goto rfl rfl ?_
      exact jr.ireturn rfl rfl rfl (q _ (by omega) (by omega) (by omega))
noncomputable def W_c_Headers_sizeIfRight_x : List (Nat × Nat) := [(18, 4), (18, 5), (18, 6)]
end
