section
/-! ===== headers: the kind that follows ===== -/
noncomputable def byK (v : Int) : Int := if v = 4 then 2 else if v = 6 then 3 else if v = 9 then 1 else 11
noncomputable def byN (v e : Int) : Int := if v = 1 then 7 else if v = 6 then 8 else if v = 17 then 9 else if v = 47 then 10 else if v = 4 then 2 else if v = 41 then 3 else if e = 0 then 11 else if v = 0 then 4 else if v = 43 then 5 else if v = 44 then 6 else 11
noncomputable def byQ (v w : Int) : Int := if v ≠ 3 ∧ v ≠ 11 then 11 else if w / 16 = 4 then 2 else if w / 16 = 6 then 3 else 11
noncomputable def hsN (f : Int → Int) (n k a z : Int) : Int := if k = 0 ∨ k = 1 ∨ k = 10 then byK (tw f (a + 2)) else if k = 2 then (if tw f (a + 6) % 8192 ≠ 0 then 11 else byN (hb f n (a + 9)) 0) else if k = 3 then byN (hb f n (a + 4)) 1 else if k = 4 ∨ k = 5 then byN (hb f n a) 1 else if k = 6 then (if tw f (a + 2) / 8 ≠ 0 then 11 else byN (hb f n a) 1) else if k = 7 then byQ (hb f n a) (hb f n z) else 11
theorem c_Headers_kindOfLink_x {A : Nat → Option (Nat × (Nat → Int32))} {Q : Option Value → jm → Prop} {M : jm} (hC_M : CI M) {x : Int} (h_x : (-2147483648) ≤ x ∧ x ≤ 2147483647) (q : ∀ (r : Int), 0 ≤ r ∧ r ≤ 11 → (r = byK x) → Q (some (.int (Int32.ofInt r))) M) : jc A 1 134 [.int (Int32.ofInt (x))] M Q := by
  refine jc_of (m := xm_134) rfl (Nat.le_of_ble_eq_true rfl) rfl ?_
  refine jr.iload_n rfl rfl ?_
  rcases (show x = 4 ∨ x = 6 ∨ x = 9 ∨ (x ≠ 4 ∧ x ≠ 6 ∧ x ≠ 9) by omega) with h1 | h1 | h1 | h1
  · refine jr.lsw_k 4 rfl h1 rfl ?_
    refine jr.iconst rfl ?_
    exact jr.ireturn rfl rfl rfl (q _ (by omega) (by unfold byK; (repeat' split) <;> omega))
  · refine jr.lsw_k 6 rfl h1 rfl ?_
    refine jr.iconst rfl ?_
    exact jr.ireturn rfl rfl rfl (q _ (by omega) (by unfold byK; (repeat' split) <;> omega))
  · refine jr.lsw_k 9 rfl h1 rfl ?_
    refine jr.iconst rfl ?_
    exact jr.ireturn rfl rfl rfl (q _ (by omega) (by unfold byK; (repeat' split) <;> omega))
  · refine jr.lsw_d rfl (by omega) rfl (fun q hq => by simp only [List.mem_cons, List.not_mem_nil, or_false] at hq; rcases hq with rfl | rfl | rfl <;> (simp only; omega)) rfl ?_
    refine jr.bipush rfl (by decide) ?_
    exact jr.ireturn rfl rfl rfl (q _ (by omega) (by unfold byK; (repeat' split) <;> omega))
theorem c_Headers_kindOfNext_x {A : Nat → Option (Nat × (Nat → Int32))} {Q : Option Value → jm → Prop} {M : jm} (hC_M : CI M) {x : Int} (h_x : (-2147483648) ≤ x ∧ x ≤ 2147483647) {y : Int} (h_y : 0 ≤ y ∧ y ≤ 1) (q : ∀ (r : Int), 0 ≤ r ∧ r ≤ 11 → (r = byN x y) → Q (some (.int (Int32.ofInt r))) M) : jc A 1 135 [.int (Int32.ofInt (x)), .int (Int32.ofInt (y))] M Q := by
  refine jc_of (m := xm_135) rfl (Nat.le_of_ble_eq_true rfl) rfl ?_
  refine jr.iload_n rfl rfl ?_
  rcases (show x = 0 ∨ x = 1 ∨ x = 4 ∨ x = 6 ∨ x = 17 ∨ x = 41 ∨ x = 43 ∨ x = 44 ∨ x = 47 ∨ (x ≠ 0 ∧ x ≠ 1 ∧ x ≠ 4 ∧ x ≠ 6 ∧ x ≠ 17 ∧ x ≠ 41 ∧ x ≠ 43 ∧ x ≠ 44 ∧ x ≠ 47) by omega) with h1 | h1 | h1 | h1 | h1 | h1 | h1 | h1 | h1 | h1
  · refine jr.lsw_k 0 rfl h1 rfl ?_
    refine jr.iload_n rfl rfl ?_
    refine jr.if_eq rfl rfl (by omega) (fun h101 => ?_) (fun h101 => ?_)
    · refine jr.bipush rfl (by decide) ?_
      exact jr.ireturn rfl rfl rfl (q _ (by omega) (by unfold byN; (repeat' split) <;> omega))
    · have sx101 : (1 : Int) ≤ y := by omega
      refine jr.iconst rfl ?_
      refine jr.goto rfl rfl ?_
      exact jr.ireturn rfl rfl rfl (q _ (by omega) (by unfold byN; (repeat' split) <;> omega))
  · refine jr.lsw_k 1 rfl h1 rfl ?_
    refine jr.bipush rfl (by decide) ?_
    exact jr.ireturn rfl rfl rfl (q _ (by omega) (by unfold byN; (repeat' split) <;> omega))
  · refine jr.lsw_k 4 rfl h1 rfl ?_
    refine jr.iconst rfl ?_
    exact jr.ireturn rfl rfl rfl (q _ (by omega) (by unfold byN; (repeat' split) <;> omega))
  · refine jr.lsw_k 6 rfl h1 rfl ?_
    refine jr.bipush rfl (by decide) ?_
    exact jr.ireturn rfl rfl rfl (q _ (by omega) (by unfold byN; (repeat' split) <;> omega))
  · refine jr.lsw_k 17 rfl h1 rfl ?_
    refine jr.bipush rfl (by decide) ?_
    exact jr.ireturn rfl rfl rfl (q _ (by omega) (by unfold byN; (repeat' split) <;> omega))
  · refine jr.lsw_k 41 rfl h1 rfl ?_
    refine jr.iconst rfl ?_
    exact jr.ireturn rfl rfl rfl (q _ (by omega) (by unfold byN; (repeat' split) <;> omega))
  · refine jr.lsw_k 43 rfl h1 rfl ?_
    refine jr.iload_n rfl rfl ?_
    refine jr.if_eq rfl rfl (by omega) (fun h112 => ?_) (fun h112 => ?_)
    · refine jr.bipush rfl (by decide) ?_
      exact jr.ireturn rfl rfl rfl (q _ (by omega) (by unfold byN; (repeat' split) <;> omega))
    · have sx112 : (1 : Int) ≤ y := by omega
      refine jr.iconst rfl ?_
      refine jr.goto rfl rfl ?_
      exact jr.ireturn rfl rfl rfl (q _ (by omega) (by unfold byN; (repeat' split) <;> omega))
  · refine jr.lsw_k 44 rfl h1 rfl ?_
    refine jr.iload_n rfl rfl ?_
    refine jr.if_eq rfl rfl (by omega) (fun h123 => ?_) (fun h123 => ?_)
    · refine jr.bipush rfl (by decide) ?_
      exact jr.ireturn rfl rfl rfl (q _ (by omega) (by unfold byN; (repeat' split) <;> omega))
    · have sx123 : (1 : Int) ≤ y := by omega
      refine jr.bipush rfl (by decide) ?_
      refine jr.goto rfl rfl ?_
      exact jr.ireturn rfl rfl rfl (q _ (by omega) (by unfold byN; (repeat' split) <;> omega))
  · refine jr.lsw_k 47 rfl h1 rfl ?_
    refine jr.bipush rfl (by decide) ?_
    exact jr.ireturn rfl rfl rfl (q _ (by omega) (by unfold byN; (repeat' split) <;> omega))
  · refine jr.lsw_d rfl (by omega) rfl (fun q hq => by simp only [List.mem_cons, List.not_mem_nil, or_false] at hq; rcases hq with rfl | rfl | rfl | rfl | rfl | rfl | rfl | rfl | rfl <;> (simp only; omega)) rfl ?_
    refine jr.bipush rfl (by decide) ?_
    exact jr.ireturn rfl rfl rfl (q _ (by omega) (by unfold byN; (repeat' split) <;> omega))
end
