theorem c_isLetter {A : Nat → Option (Nat × (Nat → Int32))} {M : jm} {Q : Option Value → jm → Prop} {c : Int} (h_c : (-2147483648) ≤ c ∧ c ≤ 2147483647) (k1 : 97 ≤ c → c ≤ 122 → Q (some (.int (Int32.ofInt 1))) M) (k0 : ¬ (97 ≤ c ∧ c ≤ 122) → Q (some (.int (Int32.ofInt 0))) M) : jc A 1 341 [.int (Int32.ofInt (c))] M Q := by
  refine jc_of (m := xm_341) rfl (Nat.le_of_ble_eq_true rfl) rfl ?_
  refine jr.iload_n rfl rfl ?_
  refine jr.bipush rfl (by decide) ?_
  refine jr.icmp_lt rfl rfl (by omega) (by omega) (fun h3 => ?_) (fun h3 => ?_)
  · refine jr.iconst rfl ?_
    exact jr.ireturn rfl rfl rfl (k0 (by omega))
  · refine jr.iload_n rfl rfl ?_
    refine jr.bipush rfl (by decide) ?_
    refine jr.icmp_gt rfl rfl (by omega) (by omega) (fun h9 => ?_) (fun h9 => ?_)
    · refine jr.iconst rfl ?_
      exact jr.ireturn rfl rfl rfl (k0 (by omega))
    · refine jr.iconst rfl ?_
      refine jr.goto rfl rfl ?_
      exact jr.ireturn rfl rfl rfl (k1 (by omega) (by omega))
theorem c_isDigit {A : Nat → Option (Nat × (Nat → Int32))} {M : jm} {Q : Option Value → jm → Prop} {c : Int} (h_c : (-2147483648) ≤ c ∧ c ≤ 2147483647) (k1 : 48 ≤ c → c ≤ 57 → Q (some (.int (Int32.ofInt 1))) M) (k0 : ¬ (48 ≤ c ∧ c ≤ 57) → Q (some (.int (Int32.ofInt 0))) M) : jc A 1 342 [.int (Int32.ofInt (c))] M Q := by
  refine jc_of (m := xm_342) rfl (Nat.le_of_ble_eq_true rfl) rfl ?_
  refine jr.iload_n rfl rfl ?_
  refine jr.bipush rfl (by decide) ?_
  refine jr.icmp_lt rfl rfl (by omega) (by omega) (fun h3 => ?_) (fun h3 => ?_)
  · refine jr.iconst rfl ?_
    exact jr.ireturn rfl rfl rfl (k0 (by omega))
  · refine jr.iload_n rfl rfl ?_
    refine jr.bipush rfl (by decide) ?_
    refine jr.icmp_gt rfl rfl (by omega) (by omega) (fun h9 => ?_) (fun h9 => ?_)
    · refine jr.iconst rfl ?_
      exact jr.ireturn rfl rfl rfl (k0 (by omega))
    · refine jr.iconst rfl ?_
      refine jr.goto rfl rfl ?_
      exact jr.ireturn rfl rfl rfl (k1 (by omega) (by omega))
theorem r_isSignByte {A : Nat → Option (Nat × (Nat → Int32))} {Q : Option Value → jm → Prop} {T : jm} {M : jm} (hI_M : RI M) (hH_M : RH M) (hS_M : RF M) (ht_M : Kp T M) {c : Int} (h_c : 0 ≤ c ∧ c ≤ 255) (q : ∀ (r : Int), 0 ≤ r ∧ r ≤ 1 → (r = 1 → c ≠ 10 ∧ c ≠ 11) → Q (some (.int (Int32.ofInt r))) M) : jc A 1 343 [.int (Int32.ofInt (c))] M Q := by
  refine jc_of (m := xm_343) rfl (Nat.le_of_ble_eq_true rfl) rfl ?_
  refine jr.iload_n rfl rfl ?_
  rcases (show c = 33 ∨ c = 37 ∨ c = 38 ∨ c = 40 ∨ c = 41 ∨ c = 42 ∨ c = 43 ∨ c = 44 ∨ c = 45 ∨ c = 46 ∨ c = 47 ∨ c = 59 ∨ c = 60 ∨ c = 61 ∨ c = 62 ∨ c = 91 ∨ c = 93 ∨ c = 123 ∨ c = 124 ∨ c = 125 ∨ (c ≠ 33 ∧ c ≠ 37 ∧ c ≠ 38 ∧ c ≠ 40 ∧ c ≠ 41 ∧ c ≠ 42 ∧ c ≠ 43 ∧ c ≠ 44 ∧ c ≠ 45 ∧ c ≠ 46 ∧ c ≠ 47 ∧ c ≠ 59 ∧ c ≠ 60 ∧ c ≠ 61 ∧ c ≠ 62 ∧ c ≠ 91 ∧ c ≠ 93 ∧ c ≠ 123 ∧ c ≠ 124 ∧ c ≠ 125) by omega) with h1 | h1 | h1 | h1 | h1 | h1 | h1 | h1 | h1 | h1 | h1 | h1 | h1 | h1 | h1 | h1 | h1 | h1 | h1 | h1 | h1
  · refine jr.lsw_k 33 rfl h1 rfl ?_
    refine jr.iconst rfl ?_
    exact jr.ireturn rfl rfl rfl (q _ (by omega) (by omega))
  · refine jr.lsw_k 37 rfl h1 rfl ?_
    refine jr.iconst rfl ?_
    exact jr.ireturn rfl rfl rfl (q _ (by omega) (by omega))
  · refine jr.lsw_k 38 rfl h1 rfl ?_
    refine jr.iconst rfl ?_
    exact jr.ireturn rfl rfl rfl (q _ (by omega) (by omega))
  · refine jr.lsw_k 40 rfl h1 rfl ?_
    refine jr.iconst rfl ?_
    exact jr.ireturn rfl rfl rfl (q _ (by omega) (by omega))
  · refine jr.lsw_k 41 rfl h1 rfl ?_
    refine jr.iconst rfl ?_
    exact jr.ireturn rfl rfl rfl (q _ (by omega) (by omega))
  · refine jr.lsw_k 42 rfl h1 rfl ?_
    refine jr.iconst rfl ?_
    exact jr.ireturn rfl rfl rfl (q _ (by omega) (by omega))
  · refine jr.lsw_k 43 rfl h1 rfl ?_
    refine jr.iconst rfl ?_
    exact jr.ireturn rfl rfl rfl (q _ (by omega) (by omega))
  · refine jr.lsw_k 44 rfl h1 rfl ?_
    refine jr.iconst rfl ?_
    exact jr.ireturn rfl rfl rfl (q _ (by omega) (by omega))
  · refine jr.lsw_k 45 rfl h1 rfl ?_
    refine jr.iconst rfl ?_
    exact jr.ireturn rfl rfl rfl (q _ (by omega) (by omega))
  · refine jr.lsw_k 46 rfl h1 rfl ?_
    refine jr.iconst rfl ?_
    exact jr.ireturn rfl rfl rfl (q _ (by omega) (by omega))
  · refine jr.lsw_k 47 rfl h1 rfl ?_
    refine jr.iconst rfl ?_
    exact jr.ireturn rfl rfl rfl (q _ (by omega) (by omega))
  · refine jr.lsw_k 59 rfl h1 rfl ?_
    refine jr.iconst rfl ?_
    exact jr.ireturn rfl rfl rfl (q _ (by omega) (by omega))
  · refine jr.lsw_k 60 rfl h1 rfl ?_
    refine jr.iconst rfl ?_
    exact jr.ireturn rfl rfl rfl (q _ (by omega) (by omega))
  · refine jr.lsw_k 61 rfl h1 rfl ?_
    refine jr.iconst rfl ?_
    exact jr.ireturn rfl rfl rfl (q _ (by omega) (by omega))
  · refine jr.lsw_k 62 rfl h1 rfl ?_
    refine jr.iconst rfl ?_
    exact jr.ireturn rfl rfl rfl (q _ (by omega) (by omega))
  · refine jr.lsw_k 91 rfl h1 rfl ?_
    refine jr.iconst rfl ?_
    exact jr.ireturn rfl rfl rfl (q _ (by omega) (by omega))
  · refine jr.lsw_k 93 rfl h1 rfl ?_
    refine jr.iconst rfl ?_
    exact jr.ireturn rfl rfl rfl (q _ (by omega) (by omega))
  · refine jr.lsw_k 123 rfl h1 rfl ?_
    refine jr.iconst rfl ?_
    exact jr.ireturn rfl rfl rfl (q _ (by omega) (by omega))
  · refine jr.lsw_k 124 rfl h1 rfl ?_
    refine jr.iconst rfl ?_
    exact jr.ireturn rfl rfl rfl (q _ (by omega) (by omega))
  · refine jr.lsw_k 125 rfl h1 rfl ?_
    refine jr.iconst rfl ?_
    exact jr.ireturn rfl rfl rfl (q _ (by omega) (by omega))
  · refine jr.lsw_d rfl (by omega) rfl (fun q hq => by simp only [List.mem_cons, List.not_mem_nil, or_false] at hq; rcases hq with rfl | rfl | rfl | rfl | rfl | rfl | rfl | rfl | rfl | rfl | rfl | rfl | rfl | rfl | rfl | rfl | rfl | rfl | rfl | rfl <;> (simp only; omega)) rfl ?_
    refine jr.iconst rfl ?_
    exact jr.ireturn rfl rfl rfl (q _ (by omega) (by omega))
theorem r_fails {A : Nat → Option (Nat × (Nat → Int32))} {Q : Option Value → jm → Prop} {M : jm} (hI_M : RI M) (hH_M : RH M) (hS_M : RF M) {w : Int} (h_w : 1 ≤ w ∧ w ≤ 7) {p : Int} (h_p : 0 ≤ p ∧ p ≤ 1600) (q : ∀ (M' : jm), RI M' → RH M' → RF M' → M' 598 80 ≠ 0 → (∀ (a : Nat) (i : Int), a ≠ 598 → M' a i = M a i) → (∀ (i : Int), i ≠ 80 → i ≠ 81 → M' 598 i = M 598 i) → Q none M') : jc A 1 338 [.ref (598), .int (Int32.ofInt (w)), .int (Int32.ofInt (p))] M Q := by
  refine jc_of (m := xm_338) rfl (Nat.le_of_ble_eq_true rfl) rfl ?_
  refine jr.aload_n rfl rfl ?_
  obtain ⟨v1, e1⟩ : ∃ z, M 598 80 = z := ⟨_, rfl⟩
  have b1 : 0 ≤ v1 ∧ v1 ≤ 7 := by rw [← e1]; exact hI_M 598 80 (by decide)
  refine jr.getf (i := 80) (x := v1) (v := .int (Int32.ofInt (v1))) rfl rfl (by decide) rfl (by decide) rfl rfl e1 rfl ?_
  refine jr.if_ne rfl rfl (by omega) (fun h4 => ?_) (fun h4 => ?_)
  · have sx4 : (1 : Int) ≤ v1 := by omega
    clear h4
    exact jr.vreturn rfl rfl (q _ hI_M hH_M hS_M  (by rw [e1]; omega) (fun a i f598 => rfl) (fun i g80 g81 => rfl))
  · refine jr.aload_n rfl rfl ?_
    refine jr.iload_n rfl rfl ?_
    refine jr.putf (i := 80) (x := w) rfl rfl (by decide) rfl (by decide) rfl rfl rfl rfl rfl ?_
    refine jr.aload_n rfl rfl ?_
    refine jr.iload_n rfl rfl ?_
    refine jr.putf (i := 81) (x := p) rfl rfl (by decide) rfl (by decide) rfl rfl rfl rfl rfl ?_
    exact jr.vreturn rfl rfl (q _ (RI.u (RI.u hI_M (a := 598) (i := 80) (show (0 : Int) ≤ _ ∧ _ ≤ (7 : Int) from by omega)) (a := 598) (i := 81) (show (-1 : Int) ≤ _ ∧ _ ≤ (1600 : Int) from by omega)) (RH.o (RH.o hH_M (by decide) (by decide) (by decide)) (by decide) (by decide) (by decide)) (RF.o (RF.o hS_M (by decide) (by decide)) (by decide) (by decide))  (by rw [((ju_i _ _ (by decide)).trans (ju_same _ _ _ _))]; omega) (fun a i f598 => ((ju_c _ _ f598).trans ((ju_c _ _ f598).trans rfl))) (fun i g80 g81 => ((ju_i _ _ g81).trans ((ju_i _ _ g80).trans rfl))))
