/-! ===== the class's methods: leaves ===== -/
theorem c_PacketWall_isNetKind {A : Nat → Option (Nat × (Nat → Int32))} {Q : Option Value → jm → Prop} {M : jm} (hC_M : CI M) {x : Int} (h_x : (-2147483648) ≤ x ∧ x ≤ 2147483647) (q : ∀ (r : Int), 0 ≤ r ∧ r ≤ 1 → (r = 0 ∨ (2 ≤ x ∧ x ≤ 3)) → Q (some (.int (Int32.ofInt r))) M) : jc A 1 50 [.int (Int32.ofInt (x))] M Q := by
  refine jc_of (m := xm_50) rfl (Nat.le_of_ble_eq_true rfl) rfl ?_
  refine jr.iload_n rfl rfl ?_
  refine jr.iconst rfl ?_
  refine jr.icmp_eq rfl rfl (by first | (refine rgb (by assumption) ?_; exact rfl) | omega) (rgl rfl) (fun h2 => ?_) (fun h2 => ?_)
  · refine jr.iconst rfl ?_
    refine jr.goto rfl rfl ?_
    exact jr.ireturn rfl rfl rfl (q _ (by first | exact rgq rfl | omega) (by omega))
  · refine jr.iload_n rfl rfl ?_
    refine jr.iconst rfl ?_
    refine jr.icmp_ne rfl rfl (by first | (refine rgb (by assumption) ?_; exact rfl) | omega) (rgl rfl) (fun h7 => ?_) (fun h7 => ?_)
    · refine jr.iconst rfl ?_
      exact jr.ireturn rfl rfl rfl (q _ (by first | exact rgq rfl | omega) (by omega))
    · refine jr.iconst rfl ?_
      refine jr.goto rfl rfl ?_
      exact jr.ireturn rfl rfl rfl (q _ (by first | exact rgq rfl | omega) (by omega))
theorem c_PacketWall_isCarriedKind {A : Nat → Option (Nat × (Nat → Int32))} {Q : Option Value → jm → Prop} {M : jm} (hC_M : CI M) {x : Int} (h_x : (-2147483648) ≤ x ∧ x ≤ 2147483647) (q : ∀ (r : Int), 0 ≤ r ∧ r ≤ 1 → (r = 0 ∨ (7 ≤ x ∧ x ≤ 9)) → Q (some (.int (Int32.ofInt r))) M) : jc A 1 51 [.int (Int32.ofInt (x))] M Q := by
  refine jc_of (m := xm_51) rfl (Nat.le_of_ble_eq_true rfl) rfl ?_
  refine jr.iload_n rfl rfl ?_
  refine jr.bipush rfl (jbp _ (nlt rfl)) ?_
  refine jr.icmp_eq rfl rfl (by first | (refine rgb (by assumption) ?_; exact rfl) | omega) (rgl rfl) (fun h3 => ?_) (fun h3 => ?_)
  · refine jr.iconst rfl ?_
    refine jr.goto rfl rfl ?_
    exact jr.ireturn rfl rfl rfl (q _ (by first | exact rgq rfl | omega) (by omega))
  · refine jr.iload_n rfl rfl ?_
    refine jr.bipush rfl (jbp _ (nlt rfl)) ?_
    refine jr.icmp_eq rfl rfl (by first | (refine rgb (by assumption) ?_; exact rfl) | omega) (rgl rfl) (fun h9 => ?_) (fun h9 => ?_)
    · refine jr.iconst rfl ?_
      refine jr.goto rfl rfl ?_
      exact jr.ireturn rfl rfl rfl (q _ (by first | exact rgq rfl | omega) (by omega))
    · refine jr.iload_n rfl rfl ?_
      refine jr.bipush rfl (jbp _ (nlt rfl)) ?_
      refine jr.icmp_ne rfl rfl (by first | (refine rgb (by assumption) ?_; exact rfl) | omega) (rgl rfl) (fun h15 => ?_) (fun h15 => ?_)
      · refine jr.iconst rfl ?_
        exact jr.ireturn rfl rfl rfl (q _ (by first | exact rgq rfl | omega) (by omega))
      · refine jr.iconst rfl ?_
        refine jr.goto rfl rfl ?_
        exact jr.ireturn rfl rfl rfl (q _ (by first | exact rgq rfl | omega) (by omega))
theorem c_PacketWall_counter {A : Nat → Option (Nat × (Nat → Int32))} {Q : Option Value → jm → Prop} {M : jm} (hC_M : CI M) {x : Int} (h_x : (-2147483648) ≤ x ∧ x ≤ 2147483647) (q : ∀ (r : Int), (-9223372036854775808) ≤ r ∧ r ≤ 9223372036854775807 → Q (some (.long (Int64.ofInt r))) M) : jc A 1 30 [.ref (0), .int (Int32.ofInt (x))] M Q := by
  refine jc_of (m := xm_30) rfl (Nat.le_of_ble_eq_true rfl) rfl ?_
  refine jr.iload_n rfl rfl ?_
  refine jr.if_lt rfl rfl (by first | (refine rgb (by assumption) ?_; exact rfl) | omega) (fun h1 => ?_) (fun h1 => ?_)
  · refine jr.ldc2 (x := (-1)) rfl rfl (by decide) ?_
    refine jr.goto rfl rfl ?_
    exact jr.lreturn rfl rfl (q _ (by omega) )
  · refine jr.iload_n rfl rfl ?_
    refine jr.bipush rfl (jbp _ (nlt rfl)) ?_
    refine jr.icmp_lt rfl rfl (by first | (refine rgb (by assumption) ?_; exact rfl) | omega) (rgl rfl) (fun h7 => ?_) (fun h7 => ?_)
    · refine jr.aload_n rfl rfl ?_
      refine jr.getf (i := 11) (v := .ref 421) rfl rfl (nlt rfl) rfl (nlt rfl) rfl rfl rfl rfl ?_
      refine jr.getf (i := 1) (v := .ref 423) rfl rfl (nlt rfl) rfl (nlt rfl) rfl rfl rfl rfl ?_
      refine jr.getf (i := 0) (v := .ref 424) rfl rfl (nlt rfl) rfl (nlt rfl) rfl rfl rfl rfl ?_
      refine jr.iload_n rfl rfl ?_
      obtain ⟨v1, e1⟩ : ∃ z_, M 424 x = z_ := ⟨_, rfl⟩
      have b1 : (-9223372036854775808) ≤ v1 ∧ v1 ≤ 9223372036854775807 := by rw [← e1]; exact (CI.r hC_M (show kd 424 = 29 from rfl) (by decide) x)
      refine jr.lald (i := x) (x := v1) rfl (nlt rfl) rfl (Nat.le_of_ble_eq_true rfl) (by omega) (by omega) e1 ?_
      exact jr.lreturn rfl rfl (q _ (by omega) )
    · refine jr.ldc2 (x := (-1)) rfl rfl (by decide) ?_
      refine jr.goto rfl rfl ?_
      exact jr.lreturn rfl rfl (q _ (by omega) )
theorem c_PacketWall_has {A : Nat → Option (Nat × (Nat → Int32))} {Q : Option Value → jm → Prop} {M : jm} (hC_M : CI M) {x : Int} (h_x : (-2147483648) ≤ x ∧ x ≤ 2147483647) (q : ∀ (r : Int), (-2147483648) ≤ r ∧ r ≤ 2147483647 → Q (some (.int (Int32.ofInt r))) M) : jc A 1 34 [.ref (0), .int (Int32.ofInt (x))] M Q := by
  refine jc_of (m := xm_34) rfl (Nat.le_of_ble_eq_true rfl) rfl ?_
  refine jr.iload_n rfl rfl ?_
  refine jr.if_lt rfl rfl (by first | (refine rgb (by assumption) ?_; exact rfl) | omega) (fun h1 => ?_) (fun h1 => ?_)
  · refine jr.bipush rfl (by decide) ?_
    refine jr.goto rfl rfl ?_
    exact jr.ireturn rfl rfl rfl (q _ (by first | exact rgq rfl | omega) )
  · refine jr.iload_n rfl rfl ?_
    refine jr.iconst rfl ?_
    refine jr.icmp_lt rfl rfl (by first | (refine rgb (by assumption) ?_; exact rfl) | omega) (rgl rfl) (fun h6 => ?_) (fun h6 => ?_)
    · refine jr.aload_n rfl rfl ?_
      refine jr.getf (i := 11) (v := .ref 421) rfl rfl (nlt rfl) rfl (nlt rfl) rfl rfl rfl rfl ?_
      refine jr.getf (i := 1) (v := .ref 423) rfl rfl (nlt rfl) rfl (nlt rfl) rfl rfl rfl rfl ?_
      refine jr.getf (i := 1) (v := .ref 425) rfl rfl (nlt rfl) rfl (nlt rfl) rfl rfl rfl rfl ?_
      refine jr.iload_n rfl rfl ?_
      obtain ⟨v1, e1⟩ : ∃ z_, M 425 x = z_ := ⟨_, rfl⟩
      have b1 : (-2147483648) ≤ v1 ∧ v1 ≤ 2147483647 := by rw [← e1]; exact (CI.r hC_M (show kd 425 = 28 from rfl) (by decide) x)
      refine jr.iald (i := x) (x := v1) rfl (nlt rfl) rfl (Nat.le_of_ble_eq_true rfl) (by omega) (by omega) e1 ?_
      exact jr.ireturn rfl rfl rfl (q _ (by omega) )
    · refine jr.bipush rfl (by decide) ?_
      refine jr.goto rfl rfl ?_
      exact jr.ireturn rfl rfl rfl (q _ (by first | exact rgq rfl | omega) )
theorem c_Headers_hasHeader {A : Nat → Option (Nat × (Nat → Int32))} {Q : Option Value → jm → Prop} {M : jm} (hC_M : CI M) {t : Nat} (k_t : kd t = 18) {x : Int} (h_x : (-2147483648) ≤ x ∧ x ≤ 2147483647) (q : ∀ (r : Int), 0 ≤ r ∧ r ≤ 1 → (r = 0 ∨ (0 ≤ x ∧ x ≤ 11)) → ((r = 0 ∧ (x < 0 ∨ M t 3 ≤ x)) ∨ (r = 1 ∧ 0 ≤ x ∧ x < M t 3)) → Q (some (.int (Int32.ofInt r))) M) : jc A 1 106 [.ref (t), .int (Int32.ofInt (x))] M Q := by
  refine jc_of (m := xm_106) rfl (Nat.le_of_ble_eq_true rfl) rfl ?_
  refine jr.iload_n rfl rfl ?_
  refine jr.if_lt rfl rfl (by first | (refine rgb (by assumption) ?_; exact rfl) | omega) (fun h1 => ?_) (fun h1 => ?_)
  · refine jr.iconst rfl ?_
    exact jr.ireturn rfl rfl rfl (q _ (by first | exact rgq rfl | omega) (by omega) (by omega))
  · refine jr.iload_n rfl rfl ?_
    refine jr.aload_n rfl rfl ?_
    obtain ⟨v1, e1⟩ : ∃ z_, M t 3 = z_ := ⟨_, rfl⟩
    have b1 : 0 ≤ v1 ∧ v1 ≤ 12 := by rw [← e1]; exact (CI.r hC_M k_t (by decide) 3)
    refine jr.getf (i := 3) (x := v1) (v := .int (Int32.ofInt (v1))) rfl rfl (Nat.lt_trans (kx_18 k_t).1 (by decide)) (kx_18 k_t).2 (by decide) rfl rfl e1 rfl ?_
    refine jr.icmp_ge rfl rfl (by first | (refine rgb (by assumption) ?_; exact rfl) | omega) (by first | (refine rgb (by assumption) ?_; exact rfl) | omega) (fun h9 => ?_) (fun h9 => ?_)
    · refine jr.iconst rfl ?_
      exact jr.ireturn rfl rfl rfl (q _ (by first | exact rgq rfl | omega) (by omega) (by omega))
    · refine jr.iconst rfl ?_
      refine jr.goto rfl rfl ?_
      exact jr.ireturn rfl rfl rfl (q _ (by first | exact rgq rfl | omega) (by omega) (by omega))
theorem c_Headers_kindOfLink {A : Nat → Option (Nat × (Nat → Int32))} {Q : Option Value → jm → Prop} {M : jm} (hC_M : CI M) {x : Int} (h_x : (-2147483648) ≤ x ∧ x ≤ 2147483647) (q : ∀ (r : Int), 0 ≤ r ∧ r ≤ 11 → Q (some (.int (Int32.ofInt r))) M) : jc A 1 134 [.int (Int32.ofInt (x))] M Q := by
  refine jc_of (m := xm_134) rfl (Nat.le_of_ble_eq_true rfl) rfl ?_
  refine jr.iload_n rfl rfl ?_
  rcases (show x = 4 ∨ x = 6 ∨ x = 9 ∨ (x ≠ 4 ∧ x ≠ 6 ∧ x ≠ 9) by omega) with h1 | h1 | h1 | h1
  · refine jr.lsw_k 4 rfl h1 rfl ?_
    refine jr.iconst rfl ?_
    exact jr.ireturn rfl rfl rfl (q _ (by first | exact rgq rfl | omega) )
  · refine jr.lsw_k 6 rfl h1 rfl ?_
    refine jr.iconst rfl ?_
    exact jr.ireturn rfl rfl rfl (q _ (by first | exact rgq rfl | omega) )
  · refine jr.lsw_k 9 rfl h1 rfl ?_
    refine jr.iconst rfl ?_
    exact jr.ireturn rfl rfl rfl (q _ (by first | exact rgq rfl | omega) )
  · refine jr.lsw_d rfl (by omega) rfl (fun q hq => by simp only [List.mem_cons, List.not_mem_nil, or_false] at hq; rcases hq with rfl | rfl | rfl <;> (simp only; omega)) rfl ?_
    refine jr.bipush rfl (jbp _ (nlt rfl)) ?_
    exact jr.ireturn rfl rfl rfl (q _ (by first | exact rgq rfl | omega) )
theorem c_Headers_kindOfNext {A : Nat → Option (Nat × (Nat → Int32))} {Q : Option Value → jm → Prop} {M : jm} (hC_M : CI M) {x : Int} (h_x : (-2147483648) ≤ x ∧ x ≤ 2147483647) {y : Int} (h_y : 0 ≤ y ∧ y ≤ 1) (q : ∀ (r : Int), 0 ≤ r ∧ r ≤ 11 → Q (some (.int (Int32.ofInt r))) M) : jc A 1 135 [.int (Int32.ofInt (x)), .int (Int32.ofInt (y))] M Q := by
  refine jc_of (m := xm_135) rfl (Nat.le_of_ble_eq_true rfl) rfl ?_
  refine jr.iload_n rfl rfl ?_
  rcases (show x = 0 ∨ x = 1 ∨ x = 4 ∨ x = 6 ∨ x = 17 ∨ x = 41 ∨ x = 43 ∨ x = 44 ∨ x = 47 ∨ (x ≠ 0 ∧ x ≠ 1 ∧ x ≠ 4 ∧ x ≠ 6 ∧ x ≠ 17 ∧ x ≠ 41 ∧ x ≠ 43 ∧ x ≠ 44 ∧ x ≠ 47) by omega) with h1 | h1 | h1 | h1 | h1 | h1 | h1 | h1 | h1 | h1
  · refine jr.lsw_k 0 rfl h1 rfl ?_
    refine jr.iload_n rfl rfl ?_
    refine jr.if_eq rfl rfl (by first | (refine rgb (by assumption) ?_; exact rfl) | omega) (fun h101 => ?_) (fun h101 => ?_)
    · refine jr.bipush rfl (jbp _ (nlt rfl)) ?_
      exact jr.ireturn rfl rfl rfl (q _ (by first | exact rgq rfl | omega) )
    · have sx101 : (1 : Int) ≤ y := by omega
      clear h101
      refine jr.iconst rfl ?_
      refine jr.goto rfl rfl ?_
      exact jr.ireturn rfl rfl rfl (q _ (by first | exact rgq rfl | omega) )
  · refine jr.lsw_k 1 rfl h1 rfl ?_
    refine jr.bipush rfl (jbp _ (nlt rfl)) ?_
    exact jr.ireturn rfl rfl rfl (q _ (by first | exact rgq rfl | omega) )
  · refine jr.lsw_k 4 rfl h1 rfl ?_
    refine jr.iconst rfl ?_
    exact jr.ireturn rfl rfl rfl (q _ (by first | exact rgq rfl | omega) )
  · refine jr.lsw_k 6 rfl h1 rfl ?_
    refine jr.bipush rfl (jbp _ (nlt rfl)) ?_
    exact jr.ireturn rfl rfl rfl (q _ (by first | exact rgq rfl | omega) )
  · refine jr.lsw_k 17 rfl h1 rfl ?_
    refine jr.bipush rfl (jbp _ (nlt rfl)) ?_
    exact jr.ireturn rfl rfl rfl (q _ (by first | exact rgq rfl | omega) )
  · refine jr.lsw_k 41 rfl h1 rfl ?_
    refine jr.iconst rfl ?_
    exact jr.ireturn rfl rfl rfl (q _ (by first | exact rgq rfl | omega) )
  · refine jr.lsw_k 43 rfl h1 rfl ?_
    refine jr.iload_n rfl rfl ?_
    refine jr.if_eq rfl rfl (by first | (refine rgb (by assumption) ?_; exact rfl) | omega) (fun h112 => ?_) (fun h112 => ?_)
    · refine jr.bipush rfl (jbp _ (nlt rfl)) ?_
      exact jr.ireturn rfl rfl rfl (q _ (by first | exact rgq rfl | omega) )
    · have sx112 : (1 : Int) ≤ y := by omega
      clear h112
      refine jr.iconst rfl ?_
      refine jr.goto rfl rfl ?_
      exact jr.ireturn rfl rfl rfl (q _ (by first | exact rgq rfl | omega) )
  · refine jr.lsw_k 44 rfl h1 rfl ?_
    refine jr.iload_n rfl rfl ?_
    refine jr.if_eq rfl rfl (by first | (refine rgb (by assumption) ?_; exact rfl) | omega) (fun h123 => ?_) (fun h123 => ?_)
    · refine jr.bipush rfl (jbp _ (nlt rfl)) ?_
      exact jr.ireturn rfl rfl rfl (q _ (by first | exact rgq rfl | omega) )
    · have sx123 : (1 : Int) ≤ y := by omega
      clear h123
      refine jr.bipush rfl (jbp _ (nlt rfl)) ?_
      refine jr.goto rfl rfl ?_
      exact jr.ireturn rfl rfl rfl (q _ (by first | exact rgq rfl | omega) )
  · refine jr.lsw_k 47 rfl h1 rfl ?_
    refine jr.bipush rfl (jbp _ (nlt rfl)) ?_
    exact jr.ireturn rfl rfl rfl (q _ (by first | exact rgq rfl | omega) )
  · refine jr.lsw_d rfl (by omega) rfl (fun q hq => by simp only [List.mem_cons, List.not_mem_nil, or_false] at hq; rcases hq with rfl | rfl | rfl | rfl | rfl | rfl | rfl | rfl | rfl <;> (simp only; omega)) rfl ?_
    refine jr.bipush rfl (jbp _ (nlt rfl)) ?_
    exact jr.ireturn rfl rfl rfl (q _ (by first | exact rgq rfl | omega) )
theorem c_Headers_sumOffset {A : Nat → Option (Nat × (Nat → Int32))} {Q : Option Value → jm → Prop} {M : jm} (hC_M : CI M) {x : Int} (h_x : (-2147483648) ≤ x ∧ x ≤ 2147483647) (q : ∀ (r : Int), 2 ≤ r ∧ r ≤ 16 → Q (some (.int (Int32.ofInt r))) M) : jc A 1 124 [.int (Int32.ofInt (x))] M Q := by
  refine jc_of (m := xm_124) rfl (Nat.le_of_ble_eq_true rfl) rfl ?_
  refine jr.iload_n rfl rfl ?_
  rcases (show x = 2 ∨ x = 7 ∨ x = 8 ∨ (x ≠ 2 ∧ x ≠ 7 ∧ x ≠ 8) by omega) with h1 | h1 | h1 | h1
  · refine jr.lsw_k 2 rfl h1 rfl ?_
    refine jr.bipush rfl (jbp _ (nlt rfl)) ?_
    exact jr.ireturn rfl rfl rfl (q _ (by first | exact rgq rfl | omega) )
  · refine jr.lsw_k 7 rfl h1 rfl ?_
    refine jr.iconst rfl ?_
    exact jr.ireturn rfl rfl rfl (q _ (by first | exact rgq rfl | omega) )
  · refine jr.lsw_k 8 rfl h1 rfl ?_
    refine jr.bipush rfl (jbp _ (nlt rfl)) ?_
    exact jr.ireturn rfl rfl rfl (q _ (by first | exact rgq rfl | omega) )
  · refine jr.lsw_d rfl (by omega) rfl (fun q hq => by simp only [List.mem_cons, List.not_mem_nil, or_false] at hq; rcases hq with rfl | rfl | rfl <;> (simp only; omega)) rfl ?_
    refine jr.bipush rfl (jbp _ (nlt rfl)) ?_
    exact jr.ireturn rfl rfl rfl (q _ (by first | exact rgq rfl | omega) )
theorem c_Headers_kindAt {A : Nat → Option (Nat × (Nat → Int32))} {Q : Option Value → jm → Prop} {M : jm} (hC_M : CI M) {t : Nat} (k_t : kd t = 18) {x : Int} (h_x : (-2147483648) ≤ x ∧ x ≤ 2147483647) (q : ∀ (r : Int), (-1) ≤ r ∧ r ≤ 11 → (r = (-1) ∨ ((0 ≤ x ∧ x ≤ 11) ∧ x < M t 3 ∧ r = M (t + 1) x)) → ((x < 0 ∨ M t 3 ≤ x) ∨ r = M (t + 1) x) → Q (some (.int (Int32.ofInt r))) M) : jc A 1 107 [.ref (t), .int (Int32.ofInt (x))] M Q := by
  refine jc_of (m := xm_107) rfl (Nat.le_of_ble_eq_true rfl) rfl ?_
  refine jr.iload_n rfl rfl ?_
  refine jr.if_lt rfl rfl (by first | (refine rgb (by assumption) ?_; exact rfl) | omega) (fun h1 => ?_) (fun h1 => ?_)
  · refine jr.iconst rfl ?_
    exact jr.ireturn rfl rfl rfl (q _ (by first | exact rgq rfl | omega) (by omega) (by omega))
  · refine jr.iload_n rfl rfl ?_
    refine jr.aload_n rfl rfl ?_
    obtain ⟨v1, e1⟩ : ∃ z_, M t 3 = z_ := ⟨_, rfl⟩
    have b1 : 0 ≤ v1 ∧ v1 ≤ 12 := by rw [← e1]; exact (CI.r hC_M k_t (by decide) 3)
    refine jr.getf (i := 3) (x := v1) (v := .int (Int32.ofInt (v1))) rfl rfl (Nat.lt_trans (kx_18 k_t).1 (by decide)) (kx_18 k_t).2 (by decide) rfl rfl e1 rfl ?_
    refine jr.icmp_ge rfl rfl (by first | (refine rgb (by assumption) ?_; exact rfl) | omega) (by first | (refine rgb (by assumption) ?_; exact rfl) | omega) (fun h9 => ?_) (fun h9 => ?_)
    · refine jr.iconst rfl ?_
      exact jr.ireturn rfl rfl rfl (q _ (by first | exact rgq rfl | omega) (by omega) (by omega))
    · refine jr.aload_n rfl rfl ?_
      have k2 := kf_18_0 k_t
      refine jr.getf (i := 0) (v := .ref (t + 1)) rfl rfl (Nat.lt_trans (kx_18 k_t).1 (by decide)) (kx_18 k_t).2 (by decide) rfl rfl rfl (jval_ref rfl k2.1) ?_
      refine jr.iload_n rfl rfl ?_
      obtain ⟨v3, e3⟩ : ∃ z_, M ((t + 1)) x = z_ := ⟨_, rfl⟩
      have b3 : 0 ≤ v3 ∧ v3 ≤ 11 := by rw [← e3]; exact (CI.r hC_M k2.2 (by decide) x)
      refine jr.iald (i := x) (x := v3) rfl (Nat.lt_trans (kx_19 k2.2).1 (by decide)) (kx_19 k2.2).2 (by decide) (by omega) (by omega) e3 ?_
      refine jr.goto rfl rfl ?_
      exact jr.ireturn rfl rfl rfl (q _ (by omega) (by omega) (by omega))
noncomputable def W_c_Headers_find : List (Nat × Nat) := [(18, 4), (18, 5), (18, 6)]
theorem c_Headers_find {A : Nat → Option (Nat × (Nat → Int32))} {Q : Option Value → jm → Prop} {T : jm} {M : jm} (hC_M : CI M) (ht_M : FR W_c_Headers_find T M) {t : Nat} (k_t : kd t = 18) {x : Int} (h_x : (-2147483648) ≤ x ∧ x ≤ 2147483647) {y : Int} (h_y : (-2147483648) ≤ y ∧ y ≤ 2147483647) {z : Int} (h_z : (-2147483648) ≤ z ∧ z ≤ 2147483647) (q : ∀ (M' : jm), CI M' → FR W_c_Headers_find T M' → (M' t 4 = x) → Q none M') : jc A 1 125 [.ref (t), .int (Int32.ofInt (x)), .int (Int32.ofInt (y)), .int (Int32.ofInt (z))] M Q := by
  refine jc_of (m := xm_125) rfl (Nat.le_of_ble_eq_true rfl) rfl ?_
  refine jr.aload_n rfl rfl ?_
  refine jr.iload_n rfl rfl ?_
  refine jr.putf (i := 4) (x := x) rfl rfl (Nat.lt_trans (kx_18 k_t).1 (by decide)) (kx_18 k_t).2 (by decide) rfl rfl rfl rfl rfl ?_
  refine jr.aload_n rfl rfl ?_
  refine jr.iload_n rfl rfl ?_
  refine jr.putf (i := 5) (x := y) rfl rfl (Nat.lt_trans (kx_18 k_t).1 (by decide)) (kx_18 k_t).2 (by decide) rfl rfl rfl rfl rfl ?_
  refine jr.aload_n rfl rfl ?_
  refine jr.iload_n rfl rfl ?_
  refine jr.putf (i := 6) (x := z) rfl rfl (Nat.lt_trans (kx_18 k_t).1 (by decide)) (kx_18 k_t).2 (by decide) rfl rfl rfl rfl rfl ?_
  exact jr.vreturn rfl rfl (q _ (CI.u (CI.u (CI.u hC_M (i := 4) k_t (show (-2147483648 : Int) ≤ _ ∧ _ ≤ (2147483647 : Int) from by omega) rfl) (i := 5) k_t (show (-2147483648 : Int) ≤ _ ∧ _ ≤ (2147483647 : Int) from by omega) rfl) (i := 6) k_t (show (-2147483648 : Int) ≤ _ ∧ _ ≤ (2147483647 : Int) from by omega) rfl) (FR.o (FR.o (FR.o ht_M k_t rfl) k_t rfl) k_t rfl)  (by have hq0 : (ju (ju (ju M t 4 x) t 5 y) t 6 z) t 4 = x := ((ju_i _ _ (zne (by decide))).trans ((ju_i _ _ (zne (by decide))).trans (ju_same _ _ _ _))); omega))
theorem c_Program_opAt {A : Nat → Option (Nat × (Nat → Int32))} {Q : Option Value → jm → Prop} {M : jm} (hC_M : CI M) {t : Nat} (k_t : kd t = 47) {x : Int} (h_x : (-2147483648) ≤ x ∧ x ≤ 2147483647) (q : ∀ (r : Int), (-2147483648) ≤ r ∧ r ≤ 2147483647 → (r = 63 ∨ ((0 ≤ x ∧ x < M t 2) ∧ r = M (t + 1) x)) → ((x < 0 ∨ M t 2 ≤ x) ∨ r = M (t + 1) x) → Q (some (.int (Int32.ofInt r))) M) : jc A 1 230 [.ref (t), .int (Int32.ofInt (x))] M Q := by
  refine jc_of (m := xm_230) rfl (Nat.le_of_ble_eq_true rfl) rfl ?_
  refine jr.iload_n rfl rfl ?_
  refine jr.if_lt rfl rfl (by first | (refine rgb (by assumption) ?_; exact rfl) | omega) (fun h1 => ?_) (fun h1 => ?_)
  · refine jr.bipush rfl (jbp _ (nlt rfl)) ?_
    exact jr.ireturn rfl rfl rfl (q _ (by first | exact rgq rfl | omega) (by omega) (by omega))
  · refine jr.iload_n rfl rfl ?_
    refine jr.aload_n rfl rfl ?_
    obtain ⟨v1, e1⟩ : ∃ z_, M t 2 = z_ := ⟨_, rfl⟩
    have b1 : 0 ≤ v1 ∧ v1 ≤ 932 := by rw [← e1]; exact (CI.r hC_M k_t (by decide) 2)
    refine jr.getf (i := 2) (x := v1) (v := .int (Int32.ofInt (v1))) rfl rfl (Nat.lt_trans (kx_47 k_t).1 (by decide)) (kx_47 k_t).2 (by decide) rfl rfl e1 rfl ?_
    refine jr.icmp_ge rfl rfl (by first | (refine rgb (by assumption) ?_; exact rfl) | omega) (by first | (refine rgb (by assumption) ?_; exact rfl) | omega) (fun h9 => ?_) (fun h9 => ?_)
    · refine jr.bipush rfl (jbp _ (nlt rfl)) ?_
      exact jr.ireturn rfl rfl rfl (q _ (by first | exact rgq rfl | omega) (by omega) (by omega))
    · refine jr.aload_n rfl rfl ?_
      have k2 := kf_47_0 k_t
      refine jr.getf (i := 0) (v := .ref (t + 1)) rfl rfl (Nat.lt_trans (kx_47 k_t).1 (by decide)) (kx_47 k_t).2 (by decide) rfl rfl rfl (jval_ref rfl k2.1) ?_
      refine jr.iload_n rfl rfl ?_
      obtain ⟨v3, e3⟩ : ∃ z_, M ((t + 1)) x = z_ := ⟨_, rfl⟩
      have b3 : (-2147483648) ≤ v3 ∧ v3 ≤ 2147483647 := by rw [← e3]; exact (CI.r hC_M k2.2 (by decide) x)
      refine jr.iald (i := x) (x := v3) rfl (Nat.lt_trans (kx_51 k2.2).1 (by decide)) (kx_51 k2.2).2 (by decide) (by omega) (by omega) e3 ?_
      refine jr.goto rfl rfl ?_
      exact jr.ireturn rfl rfl rfl (q _ (by omega) (by omega) (by omega))
theorem c_Program_argAt {A : Nat → Option (Nat × (Nat → Int32))} {Q : Option Value → jm → Prop} {M : jm} (hC_M : CI M) {t : Nat} (k_t : kd t = 47) {x : Int} (h_x : (-2147483648) ≤ x ∧ x ≤ 2147483647) (q : ∀ (r : Int), (-2147483648) ≤ r ∧ r ≤ 2147483647 → (r = 0 ∨ ((0 ≤ x ∧ x < M t 2) ∧ r = M (t + 2) x)) → Q (some (.int (Int32.ofInt r))) M) : jc A 1 231 [.ref (t), .int (Int32.ofInt (x))] M Q := by
  refine jc_of (m := xm_231) rfl (Nat.le_of_ble_eq_true rfl) rfl ?_
  refine jr.iload_n rfl rfl ?_
  refine jr.if_lt rfl rfl (by first | (refine rgb (by assumption) ?_; exact rfl) | omega) (fun h1 => ?_) (fun h1 => ?_)
  · refine jr.iconst rfl ?_
    exact jr.ireturn rfl rfl rfl (q _ (by first | exact rgq rfl | omega) (by omega))
  · refine jr.iload_n rfl rfl ?_
    refine jr.aload_n rfl rfl ?_
    obtain ⟨v1, e1⟩ : ∃ z_, M t 2 = z_ := ⟨_, rfl⟩
    have b1 : 0 ≤ v1 ∧ v1 ≤ 932 := by rw [← e1]; exact (CI.r hC_M k_t (by decide) 2)
    refine jr.getf (i := 2) (x := v1) (v := .int (Int32.ofInt (v1))) rfl rfl (Nat.lt_trans (kx_47 k_t).1 (by decide)) (kx_47 k_t).2 (by decide) rfl rfl e1 rfl ?_
    refine jr.icmp_ge rfl rfl (by first | (refine rgb (by assumption) ?_; exact rfl) | omega) (by first | (refine rgb (by assumption) ?_; exact rfl) | omega) (fun h9 => ?_) (fun h9 => ?_)
    · refine jr.iconst rfl ?_
      exact jr.ireturn rfl rfl rfl (q _ (by first | exact rgq rfl | omega) (by omega))
    · refine jr.aload_n rfl rfl ?_
      have k2 := kf_47_1 k_t
      refine jr.getf (i := 1) (v := .ref (t + 2)) rfl rfl (Nat.lt_trans (kx_47 k_t).1 (by decide)) (kx_47 k_t).2 (by decide) rfl rfl rfl (jval_ref rfl k2.1) ?_
      refine jr.iload_n rfl rfl ?_
      obtain ⟨v3, e3⟩ : ∃ z_, M ((t + 2)) x = z_ := ⟨_, rfl⟩
      have b3 : (-2147483648) ≤ v3 ∧ v3 ≤ 2147483647 := by rw [← e3]; exact (CI.r hC_M k2.2 (by decide) x)
      refine jr.iald (i := x) (x := v3) rfl (Nat.lt_trans (kx_48 k2.2).1 (by decide)) (kx_48 k2.2).2 (by decide) (by omega) (by omega) e3 ?_
      refine jr.goto rfl rfl ?_
      exact jr.ireturn rfl rfl rfl (q _ (by omega) (by omega))
theorem c_Machine_isNot {A : Nat → Option (Nat × (Nat → Int32))} {Q : Option Value → jm → Prop} {M : jm} (hC_M : CI M) {x : Int} (h_x : (-9223372036854775808) ≤ x ∧ x ≤ 9223372036854775807) {y : Int} (h_y : (-2147483648) ≤ y ∧ y ≤ 2147483647) (q : ∀ (r : Int), 0 ≤ r ∧ r ≤ 1 → (r = 1 ∨ (0 ≤ x ∧ x < y)) → Q (some (.int (Int32.ofInt r))) M) : jc A 1 166 [.long (Int64.ofInt (x)), .int (Int32.ofInt (y))] M Q := by
  refine jc_of (m := xm_166) rfl (Nat.le_of_ble_eq_true rfl) rfl ?_
  refine jr.lload_n rfl rfl ?_
  refine jr.lconst (x := 0) rfl (by decide) ?_
  refine jr.lcmp_lt rfl rfl rfl (by omega) (by omega) (fun h2 => ?_) (fun h2 => ?_)
  · refine jr.iconst rfl ?_
    refine jr.goto rfl rfl ?_
    exact jr.ireturn rfl rfl rfl (q _ (by first | exact rgq rfl | omega) (by omega))
  · refine jr.lload_n rfl rfl ?_
    refine jr.iload_n rfl rfl ?_
    refine jr.i2l rfl (by omega) ?_
    refine jr.lcmp_lt rfl rfl rfl (by omega) (by omega) (fun h9 => ?_) (fun h9 => ?_)
    · refine jr.iconst rfl ?_
      exact jr.ireturn rfl rfl rfl (q _ (by first | exact rgq rfl | omega) (by omega))
    · refine jr.iconst rfl ?_
      refine jr.goto rfl rfl ?_
      exact jr.ireturn rfl rfl rfl (q _ (by first | exact rgq rfl | omega) (by omega))
theorem c_Machine_hasNoFailureLeft {A : Nat → Option (Nat × (Nat → Int32))} {Q : Option Value → jm → Prop} {M : jm} (hC_M : CI M) (q : ∀ (r : Int), 0 ≤ r ∧ r ≤ 1 → Q (some (.int (Int32.ofInt r))) M) : jc A 1 138 [.ref (421)] M Q := by
  refine jc_of (m := xm_138) rfl (Nat.le_of_ble_eq_true rfl) rfl ?_
  refine jr.aload_n rfl rfl ?_
  obtain ⟨v1, e1⟩ : ∃ z_, M 421 3 = z_ := ⟨_, rfl⟩
  have b1 : (-2147483648) ≤ v1 ∧ v1 ≤ 2147483647 := by rw [← e1]; exact (CI.r hC_M (show kd 421 = 22 from rfl) (by decide) 3)
  refine jr.getf (i := 3) (x := v1) (v := .int (Int32.ofInt (v1))) rfl rfl (nlt rfl) rfl (nlt rfl) rfl rfl e1 rfl ?_
  refine jr.sipush rfl (by decide) ?_
  refine jr.icmp_lt rfl rfl (by first | (refine rgb (by assumption) ?_; exact rfl) | omega) (rgl rfl) (fun h7 => ?_) (fun h7 => ?_)
  · refine jr.iconst rfl ?_
    exact jr.ireturn rfl rfl rfl (q _ (by first | exact rgq rfl | omega) )
  · refine jr.iconst rfl ?_
    refine jr.goto rfl rfl ?_
    exact jr.ireturn rfl rfl rfl (q _ (by first | exact rgq rfl | omega) )
theorem c_Machine_isBeyond {A : Nat → Option (Nat × (Nat → Int32))} {Q : Option Value → jm → Prop} {M : jm} (hC_M : CI M) {x : Nat} (k_x : kd x = 52) {y : Int} (h_y : (-9223372036854775808) ≤ y ∧ y ≤ 9223372036854775807) {z : Int} (h_z : (-9223372036854775808) ≤ z ∧ z ≤ 9223372036854775807) (q : ∀ (r : Int), 0 ≤ r ∧ r ≤ 1 → (r = 1 ∨ ((0 ≤ y ∧ 0 ≤ z) ∧ y + z ≤ 40)) → Q (some (.int (Int32.ofInt r))) M) : jc A 1 179 [.ref (x), .long (Int64.ofInt (y)), .long (Int64.ofInt (z))] M Q := by
  refine jc_of (m := xm_179) rfl (Nat.le_of_ble_eq_true rfl) rfl ?_
  refine jr.lload_n rfl rfl ?_
  refine jr.lconst (x := 0) rfl (by decide) ?_
  refine jr.lcmp_lt rfl rfl rfl (by omega) (by omega) (fun h2 => ?_) (fun h2 => ?_)
  · refine jr.iconst rfl ?_
    refine jr.goto rfl rfl ?_
    exact jr.ireturn rfl rfl rfl (q _ (by first | exact rgq rfl | omega) (by omega))
  · refine jr.lload_n rfl rfl ?_
    refine jr.lconst (x := 0) rfl (by decide) ?_
    refine jr.lcmp_lt rfl rfl rfl (by omega) (by omega) (fun h8 => ?_) (fun h8 => ?_)
    · refine jr.iconst rfl ?_
      refine jr.goto rfl rfl ?_
      exact jr.ireturn rfl rfl rfl (q _ (by first | exact rgq rfl | omega) (by omega))
    · refine jr.lload_n rfl rfl ?_
      refine jr.aload_n rfl rfl ?_
      obtain ⟨v1, e1⟩ : ∃ z_, M x 1 = z_ := ⟨_, rfl⟩
      have b1 : 0 ≤ v1 ∧ v1 ≤ 40 := by rw [← e1]; exact (CI.r hC_M k_x (by decide) 1)
      refine jr.getf (i := 1) (x := v1) (v := .int (Int32.ofInt (v1))) rfl rfl (Nat.lt_trans (kx_52 k_x).1 (by decide)) (kx_52 k_x).2 (by decide) rfl rfl e1 rfl ?_
      refine jr.i2l rfl (by omega) ?_
      refine jr.lcmp_gt rfl rfl rfl (by omega) (by omega) (fun h18 => ?_) (fun h18 => ?_)
      · refine jr.iconst rfl ?_
        refine jr.goto rfl rfl ?_
        exact jr.ireturn rfl rfl rfl (q _ (by first | exact rgq rfl | omega) (by omega))
      · refine jr.lload_n rfl rfl ?_
        refine jr.aload_n rfl rfl ?_
        refine jr.getf (i := 1) (x := v1) (v := .int (Int32.ofInt (v1))) rfl rfl (Nat.lt_trans (kx_52 k_x).1 (by decide)) (kx_52 k_x).2 (by decide) rfl rfl e1 rfl ?_
        refine jr.i2l rfl (by omega) ?_
        refine jr.lload_n rfl rfl ?_
        refine jr.lsub rfl ?_
        refine jr.lcmp_le rfl rfl rfl (by omega) (by omega) (fun h30 => ?_) (fun h30 => ?_)
        · refine jr.iconst rfl ?_
          exact jr.ireturn rfl rfl rfl (q _ (by first | exact rgq rfl | omega) (by omega))
        · refine jr.iconst rfl ?_
          refine jr.goto rfl rfl ?_
          exact jr.ireturn rfl rfl rfl (q _ (by first | exact rgq rfl | omega) (by omega))
noncomputable def W_c_Machine_fail : List (Nat × Nat) := [(22, 4), (24, 1000)]
theorem c_Machine_fail {A : Nat → Option (Nat × (Nat → Int32))} {Q : Option Value → jm → Prop} {T : jm} {M : jm} (hC_M : CI M) (ht_M : FR W_c_Machine_fail T M) {x : Int} (h_x : (-2147483648) ≤ x ∧ x ≤ 2147483647) (q : ∀ (M' : jm), CI M' → FR W_c_Machine_fail T M' → Q none M') : jc A 1 148 [.ref (421), .int (Int32.ofInt (x))] M Q := by
  refine jc_of (m := xm_148) rfl (Nat.le_of_ble_eq_true rfl) rfl ?_
  refine jr.aload_n rfl rfl ?_
  refine jr.iconst rfl ?_
  refine jr.putf (i := 4) (x := 1) rfl rfl (nlt rfl) rfl (nlt rfl) rfl rfl rfl rfl rfl ?_
  refine jr.aload_n rfl rfl ?_
  refine jr.getf (i := 10) (v := .ref 436) rfl rfl (nlt rfl) rfl (nlt rfl) rfl rfl rfl rfl ?_
  refine jr.iconst rfl ?_
  refine jr.iload_n rfl rfl ?_
  refine jr.iast (i := 0) (x := x) rfl (nlt rfl) rfl (Nat.le_of_ble_eq_true rfl) (by omega) (by omega) ?_
  refine jr.aload_n rfl rfl ?_
  refine jr.getf (i := 10) (v := .ref 436) rfl rfl (nlt rfl) rfl (nlt rfl) rfl rfl rfl rfl ?_
  refine jr.iconst rfl ?_
  refine jr.iconst rfl ?_
  refine jr.iast (i := 1) (x := 0) rfl (nlt rfl) rfl (Nat.le_of_ble_eq_true rfl) (by omega) (by omega) ?_
  exact jr.vreturn rfl rfl (q _ (CI.u (CI.u (CI.u hC_M (i := 4) (show kd 421 = 22 from rfl) (show (0 : Int) ≤ _ ∧ _ ≤ (1 : Int) from by omega) rfl) (i := 0) (show kd 436 = 24 from rfl) (show (-2147483648 : Int) ≤ _ ∧ _ ≤ (2147483647 : Int) from by omega) rfl) (i := 1) (show kd 436 = 24 from rfl) (show (-2147483648 : Int) ≤ _ ∧ _ ≤ (2147483647 : Int) from by omega) rfl) (FR.o (FR.o (FR.o ht_M (show kd 421 = 22 from rfl) rfl) (show kd 436 = 24 from rfl) rfl) (show kd 436 = 24 from rfl) rfl)  )
noncomputable def W_c_Machine_clearFailure : List (Nat × Nat) := [(24, 1000)]
theorem c_Machine_clearFailure {A : Nat → Option (Nat × (Nat → Int32))} {Q : Option Value → jm → Prop} {T : jm} {M : jm} (hC_M : CI M) (ht_M : FR W_c_Machine_clearFailure T M) (q : ∀ (M' : jm), CI M' → FR W_c_Machine_clearFailure T M' → Q none M') : jc A 1 142 [.ref (421)] M Q := by
  refine jc_of (m := xm_142) rfl (Nat.le_of_ble_eq_true rfl) rfl ?_
  refine jr.aload_n rfl rfl ?_
  refine jr.getf (i := 10) (v := .ref 436) rfl rfl (nlt rfl) rfl (nlt rfl) rfl rfl rfl rfl ?_
  refine jr.iconst rfl ?_
  refine jr.iconst rfl ?_
  refine jr.iast (i := 0) (x := 0) rfl (nlt rfl) rfl (Nat.le_of_ble_eq_true rfl) (by omega) (by omega) ?_
  refine jr.aload_n rfl rfl ?_
  refine jr.getf (i := 10) (v := .ref 436) rfl rfl (nlt rfl) rfl (nlt rfl) rfl rfl rfl rfl ?_
  refine jr.iconst rfl ?_
  refine jr.iconst rfl ?_
  refine jr.iast (i := 1) (x := 0) rfl (nlt rfl) rfl (Nat.le_of_ble_eq_true rfl) (by omega) (by omega) ?_
  refine jr.aload_n rfl rfl ?_
  refine jr.getf (i := 10) (v := .ref 436) rfl rfl (nlt rfl) rfl (nlt rfl) rfl rfl rfl rfl ?_
  refine jr.iconst rfl ?_
  refine jr.iconst rfl ?_
  refine jr.iast (i := 3) (x := (-1)) rfl (nlt rfl) rfl (Nat.le_of_ble_eq_true rfl) (by omega) (by omega) ?_
  exact jr.vreturn rfl rfl (q _ (CI.u (CI.u (CI.u hC_M (i := 0) (show kd 436 = 24 from rfl) (show (-2147483648 : Int) ≤ _ ∧ _ ≤ (2147483647 : Int) from by omega) rfl) (i := 1) (show kd 436 = 24 from rfl) (show (-2147483648 : Int) ≤ _ ∧ _ ≤ (2147483647 : Int) from by omega) rfl) (i := 3) (show kd 436 = 24 from rfl) (show (-2147483648 : Int) ≤ _ ∧ _ ≤ (2147483647 : Int) from by omega) rfl) (FR.o (FR.o (FR.o ht_M (show kd 436 = 24 from rfl) rfl) (show kd 436 = 24 from rfl) rfl) (show kd 436 = 24 from rfl) rfl)  )
noncomputable def W_c_Machine_push : List (Nat × Nat) := [(22, 9), (26, 1000)]
theorem c_Machine_push {A : Nat → Option (Nat × (Nat → Int32))} {Q : Option Value → jm → Prop} {T : jm} {M : jm} (hC_M : CI M) (ht_M : FR W_c_Machine_push T M) {x : Int} (h_x : (-9223372036854775808) ≤ x ∧ x ≤ 9223372036854775807) (q : ∀ (M' : jm), CI M' → FR W_c_Machine_push T M' → Q none M') : jc A 1 154 [.ref (421), .long (Int64.ofInt (x))] M Q := by
  refine jc_of (m := xm_154) rfl (Nat.le_of_ble_eq_true rfl) rfl ?_
  refine jr.aload_n rfl rfl ?_
  obtain ⟨v1, e1⟩ : ∃ z_, M 421 9 = z_ := ⟨_, rfl⟩
  have b1 : 0 ≤ v1 ∧ v1 ≤ 320 := by rw [← e1]; exact (CI.r hC_M (show kd 421 = 22 from rfl) (by decide) 9)
  refine jr.getf (i := 9) (x := v1) (v := .int (Int32.ofInt (v1))) rfl rfl (nlt rfl) rfl (nlt rfl) rfl rfl e1 rfl ?_
  refine jr.sipush rfl (by decide) ?_
  refine jr.icmp_ge rfl rfl (by first | (refine rgb (by assumption) ?_; exact rfl) | omega) (rgl rfl) (fun h7 => ?_) (fun h7 => ?_)
  · exact jr.vreturn rfl rfl (q _ hC_M ht_M  )
  · refine jr.aload_n rfl rfl ?_
    refine jr.getf (i := 8) (v := .ref 435) rfl rfl (nlt rfl) rfl (nlt rfl) rfl rfl rfl rfl ?_
    refine jr.aload_n rfl rfl ?_
    refine jr.getf (i := 9) (x := v1) (v := .int (Int32.ofInt (v1))) rfl rfl (nlt rfl) rfl (nlt rfl) rfl rfl e1 rfl ?_
    refine jr.lload_n rfl rfl ?_
    refine jr.last (i := v1) (x := x) rfl (nlt rfl) rfl (Nat.le_of_ble_eq_true rfl) (by omega) (by omega) ?_
    refine jr.aload_n rfl rfl ?_
    refine jr.dup rfl rfl ?_
    refine jr.getf (i := 9) (x := v1) (v := .int (Int32.ofInt (v1))) rfl rfl (nlt rfl) rfl (nlt rfl) rfl rfl ((ju_c _ _ (by decide)).trans e1) rfl ?_
    refine jr.iconst rfl ?_
    refine jr.iadd rfl ?_
    refine jr.putf (i := 9) (x := (v1 + 1)) rfl rfl (nlt rfl) rfl (nlt rfl) rfl rfl rfl rfl rfl ?_
    exact jr.vreturn rfl rfl (q _ (CI.u (CI.u hC_M (i := v1) (show kd 435 = 26 from rfl) (show (-9223372036854775808 : Int) ≤ _ ∧ _ ≤ (9223372036854775807 : Int) from by omega) rfl) (i := 9) (show kd 421 = 22 from rfl) (show (0 : Int) ≤ _ ∧ _ ≤ (320 : Int) from by omega) rfl) (FR.o (FR.o ht_M (show kd 435 = 26 from rfl) rfl) (show kd 421 = 22 from rfl) rfl)  )
noncomputable def W_c_Machine_pop : List (Nat × Nat) := [(22, 9)]
theorem c_Machine_pop {A : Nat → Option (Nat × (Nat → Int32))} {Q : Option Value → jm → Prop} {T : jm} {M : jm} (hC_M : CI M) (ht_M : FR W_c_Machine_pop T M) (q : ∀ (r : Int) (M' : jm), CI M' → FR W_c_Machine_pop T M' → (-9223372036854775808) ≤ r ∧ r ≤ 9223372036854775807 → Q (some (.long (Int64.ofInt r))) M') : jc A 1 156 [.ref (421)] M Q := by
  refine jc_of (m := xm_156) rfl (Nat.le_of_ble_eq_true rfl) rfl ?_
  refine jr.aload_n rfl rfl ?_
  obtain ⟨v1, e1⟩ : ∃ z_, M 421 9 = z_ := ⟨_, rfl⟩
  have b1 : 0 ≤ v1 ∧ v1 ≤ 320 := by rw [← e1]; exact (CI.r hC_M (show kd 421 = 22 from rfl) (by decide) 9)
  refine jr.getf (i := 9) (x := v1) (v := .int (Int32.ofInt (v1))) rfl rfl (nlt rfl) rfl (nlt rfl) rfl rfl e1 rfl ?_
  refine jr.if_gt rfl rfl (by first | (refine rgb (by assumption) ?_; exact rfl) | omega) (fun h4 => ?_) (fun h4 => ?_)
  · refine jr.aload_n rfl rfl ?_
    refine jr.dup rfl rfl ?_
    refine jr.getf (i := 9) (x := v1) (v := .int (Int32.ofInt (v1))) rfl rfl (nlt rfl) rfl (nlt rfl) rfl rfl e1 rfl ?_
    refine jr.iconst rfl ?_
    refine jr.isub rfl ?_
    refine jr.putf (i := 9) (x := (v1 - 1)) rfl rfl (nlt rfl) rfl (nlt rfl) rfl rfl rfl rfl rfl ?_
    refine jr.aload_n rfl rfl ?_
    refine jr.getf (i := 8) (v := .ref 435) rfl rfl (nlt rfl) rfl (nlt rfl) rfl rfl rfl rfl ?_
    refine jr.aload_n rfl rfl ?_
    refine jr.getf (i := 9) (x := (v1 - 1)) (v := .int (Int32.ofInt (v1 - 1))) rfl rfl (nlt rfl) rfl (nlt rfl) rfl rfl (ju_same _ _ _ _) rfl ?_
    obtain ⟨v2, e2⟩ : ∃ z_, M 435 (v1 - 1) = z_ := ⟨_, rfl⟩
    have b2 : (-9223372036854775808) ≤ v2 ∧ v2 ≤ 9223372036854775807 := by rw [← e2]; exact (CI.r hC_M (show kd 435 = 26 from rfl) (by decide) (v1 - 1))
    refine jr.lald (i := (v1 - 1)) (x := v2) rfl (nlt rfl) rfl (Nat.le_of_ble_eq_true rfl) (by omega) (by omega) ((ju_c _ _ (by decide)).trans e2) ?_
    exact jr.lreturn rfl rfl (q _ _ (CI.u hC_M (i := 9) (show kd 421 = 22 from rfl) (show (0 : Int) ≤ _ ∧ _ ≤ (320 : Int) from by omega) rfl) (FR.o ht_M (show kd 421 = 22 from rfl) rfl) (by omega) )
  · refine jr.lconst (x := 0) rfl (by decide) ?_
    exact jr.lreturn rfl rfl (q _ _ hC_M ht_M (by omega) )
noncomputable def W_c_Parser_fail : List (Nat × Nat) := [(44, 0), (44, 1)]
theorem c_Parser_fail {A : Nat → Option (Nat × (Nat → Int32))} [HA A] {Q : Option Value → jm → Prop} {T : jm} {M : jm} (hC_M : CI M) (ht_M : FR W_c_Parser_fail T M) {x : Int} (h_x : 1 ≤ x ∧ x ≤ 7) (q : ∀ (M' : jm), CI M' → FR W_c_Parser_fail T M' → (M' 413 0 ≠ 0) → Q none M') : jc A 1 225 [.ref (413), .int (Int32.ofInt (x))] M Q := by
  refine jc_of (m := xm_225) rfl (Nat.le_of_ble_eq_true rfl) rfl ?_
  refine jr.aload_n rfl rfl ?_
  obtain ⟨v1, e1⟩ : ∃ z_, M 413 0 = z_ := ⟨_, rfl⟩
  have b1 : (-2147483648) ≤ v1 ∧ v1 ≤ 2147483647 := by rw [← e1]; exact (CI.r hC_M (show kd 413 = 44 from rfl) (by decide) 0)
  refine jr.getf (i := 0) (x := v1) (v := .int (Int32.ofInt (v1))) rfl rfl (nlt rfl) rfl (nlt rfl) rfl rfl e1 rfl ?_
  refine jr.if_ne rfl rfl (by first | (refine rgb (by assumption) ?_; exact rfl) | omega) (fun h4 => ?_) (fun h4 => ?_)
  · exact jr.vreturn rfl rfl (q _ hC_M ht_M  (by have hq0 : M 413 0 = v1 := e1; omega))
  · refine jr.aload_n rfl rfl ?_
    refine jr.iload_n rfl rfl ?_
    refine jr.putf (i := 0) (x := x) rfl rfl (nlt rfl) rfl (nlt rfl) rfl rfl rfl rfl rfl ?_
    refine jr.aload_n rfl rfl ?_
    refine jr.aload_n rfl rfl ?_
    obtain ⟨v2, e2⟩ : ∃ z_, M 413 7 = z_ := ⟨_, rfl⟩
    have b2 : 0 ≤ v2 ∧ v2 ≤ 1600 := by rw [← e2]; exact (CI.r hC_M (show kd 413 = 44 from rfl) (by decide) 7)
    refine jr.getf (i := 7) (x := v2) (v := .int (Int32.ofInt (v2))) rfl rfl (nlt rfl) rfl (nlt rfl) rfl rfl ((ju_i _ _ (zne (by decide))).trans e2) rfl ?_
    refine jr.putf (i := 1) (x := v2) rfl rfl (nlt rfl) rfl (nlt rfl) rfl rfl rfl rfl rfl ?_
    exact jr.vreturn rfl rfl (q _ (CI.u (CI.u hC_M (i := 0) (show kd 413 = 44 from rfl) (show (-2147483648 : Int) ≤ _ ∧ _ ≤ (2147483647 : Int) from by omega) rfl) (i := 1) (show kd 413 = 44 from rfl) (show (-2147483648 : Int) ≤ _ ∧ _ ≤ (2147483647 : Int) from by omega) rfl) (FR.o (FR.o ht_M (show kd 413 = 44 from rfl) rfl) (show kd 413 = 44 from rfl) rfl)  (by have hq0 : (ju (ju M 413 0 x) 413 1 v2) 413 0 = x := ((ju_i _ _ (zne (by decide))).trans (ju_same _ _ _ _)); omega))
theorem c_Parser_hasMore {A : Nat → Option (Nat × (Nat → Int32))} [HA A] {Q : Option Value → jm → Prop} {M : jm} (hC_M : CI M) {x : Int} (h_x : (-2147483648) ≤ x ∧ x ≤ 2147483647) (q : ∀ (r : Int), 0 ≤ r ∧ r ≤ 1 → Q (some (.int (Int32.ofInt r))) M) : jc A 1 196 [.ref (413), .int (Int32.ofInt (x))] M Q := by
  refine jc_of (m := xm_196) rfl (Nat.le_of_ble_eq_true rfl) rfl ?_
  refine jr.aload_n rfl rfl ?_
  obtain ⟨v1, e1⟩ : ∃ z_, M 413 0 = z_ := ⟨_, rfl⟩
  have b1 : (-2147483648) ≤ v1 ∧ v1 ≤ 2147483647 := by rw [← e1]; exact (CI.r hC_M (show kd 413 = 44 from rfl) (by decide) 0)
  refine jr.getf (i := 0) (x := v1) (v := .int (Int32.ofInt (v1))) rfl rfl (nlt rfl) rfl (nlt rfl) rfl rfl e1 rfl ?_
  refine jr.if_ne rfl rfl (by first | (refine rgb (by assumption) ?_; exact rfl) | omega) (fun h4 => ?_) (fun h4 => ?_)
  · refine jr.iconst rfl ?_
    exact jr.ireturn rfl rfl rfl (q _ (by first | exact rgq rfl | omega) )
  · refine jr.iload_n rfl rfl ?_
    refine jr.if_eq rfl rfl (by first | (refine rgb (by assumption) ?_; exact rfl) | omega) (fun h8 => ?_) (fun h8 => ?_)
    · refine jr.iconst rfl ?_
      refine jr.goto rfl rfl ?_
      exact jr.ireturn rfl rfl rfl (q _ (by first | exact rgq rfl | omega) )
    · refine jr.aload_n rfl rfl ?_
      obtain ⟨v2, e2⟩ : ∃ z_, M 413 6 = z_ := ⟨_, rfl⟩
      have b2 : (-2147483648) ≤ v2 ∧ v2 ≤ 2147483647 := by rw [← e2]; exact (CI.r hC_M (show kd 413 = 44 from rfl) (by decide) 6)
      refine jr.getf (i := 6) (x := v2) (v := .int (Int32.ofInt (v2))) rfl rfl (nlt rfl) rfl (nlt rfl) rfl rfl e2 rfl ?_
      refine jr.if_eq rfl rfl (by first | (refine rgb (by assumption) ?_; exact rfl) | omega) (fun h15 => ?_) (fun h15 => ?_)
      · refine jr.iconst rfl ?_
        exact jr.ireturn rfl rfl rfl (q _ (by first | exact rgq rfl | omega) )
      · refine jr.iconst rfl ?_
        refine jr.goto rfl rfl ?_
        exact jr.ireturn rfl rfl rfl (q _ (by first | exact rgq rfl | omega) )
theorem c_Parser_isSign {A : Nat → Option (Nat × (Nat → Int32))} [HA A] {Q : Option Value → jm → Prop} {M : jm} (hC_M : CI M) {x : Int} (h_x : 0 ≤ x ∧ x ≤ 65535) (q : ∀ (r : Int), 0 ≤ r ∧ r ≤ 1 → Q (some (.int (Int32.ofInt r))) M) : jc A 1 217 [.ref (413), .int (Int32.ofInt (x))] M Q := by
  refine jc_of (m := xm_217) rfl (Nat.le_of_ble_eq_true rfl) rfl ?_
  refine jr.aload_n rfl rfl ?_
  obtain ⟨v1, e1⟩ : ∃ z_, M 413 6 = z_ := ⟨_, rfl⟩
  have b1 : (-2147483648) ≤ v1 ∧ v1 ≤ 2147483647 := by rw [← e1]; exact (CI.r hC_M (show kd 413 = 44 from rfl) (by decide) 6)
  refine jr.getf (i := 6) (x := v1) (v := .int (Int32.ofInt (v1))) rfl rfl (nlt rfl) rfl (nlt rfl) rfl rfl e1 rfl ?_
  refine jr.iconst rfl ?_
  refine jr.icmp_ne rfl rfl (by first | (refine rgb (by assumption) ?_; exact rfl) | omega) (rgl rfl) (fun h5 => ?_) (fun h5 => ?_)
  · refine jr.iconst rfl ?_
    exact jr.ireturn rfl rfl rfl (q _ (by first | exact rgq rfl | omega) )
  · refine jr.aload_n rfl rfl ?_
    obtain ⟨v2, e2⟩ : ∃ z_, M 413 11 = z_ := ⟨_, rfl⟩
    have b2 : 0 ≤ v2 ∧ v2 ≤ 255 := by rw [← e2]; exact (CI.r hC_M (show kd 413 = 44 from rfl) (by decide) 11)
    refine jr.getf (i := 11) (x := v2) (v := .int (Int32.ofInt (v2))) rfl rfl (nlt rfl) rfl (nlt rfl) rfl rfl e2 rfl ?_
    refine jr.iload_n rfl rfl ?_
    refine jr.icmp_ne rfl rfl (by first | (refine rgb (by assumption) ?_; exact rfl) | omega) (by first | (refine rgb (by assumption) ?_; exact rfl) | omega) (fun h13 => ?_) (fun h13 => ?_)
    · refine jr.iconst rfl ?_
      exact jr.ireturn rfl rfl rfl (q _ (by first | exact rgq rfl | omega) )
    · refine jr.iconst rfl ?_
      refine jr.goto rfl rfl ?_
      exact jr.ireturn rfl rfl rfl (q _ (by first | exact rgq rfl | omega) )
theorem c_Parser_isWord {A : Nat → Option (Nat × (Nat → Int32))} [HA A] {Q : Option Value → jm → Prop} {M : jm} (hC_M : CI M) {x : Int} (h_x : (-2147483648) ≤ x ∧ x ≤ 2147483647) (q : ∀ (r : Int), 0 ≤ r ∧ r ≤ 1 → Q (some (.int (Int32.ofInt r))) M) : jc A 1 218 [.ref (413), .int (Int32.ofInt (x))] M Q := by
  refine jc_of (m := xm_218) rfl (Nat.le_of_ble_eq_true rfl) rfl ?_
  refine jr.aload_n rfl rfl ?_
  obtain ⟨v1, e1⟩ : ∃ z_, M 413 6 = z_ := ⟨_, rfl⟩
  have b1 : (-2147483648) ≤ v1 ∧ v1 ≤ 2147483647 := by rw [← e1]; exact (CI.r hC_M (show kd 413 = 44 from rfl) (by decide) 6)
  refine jr.getf (i := 6) (x := v1) (v := .int (Int32.ofInt (v1))) rfl rfl (nlt rfl) rfl (nlt rfl) rfl rfl e1 rfl ?_
  refine jr.iconst rfl ?_
  refine jr.icmp_ne rfl rfl (by first | (refine rgb (by assumption) ?_; exact rfl) | omega) (rgl rfl) (fun h5 => ?_) (fun h5 => ?_)
  · refine jr.iconst rfl ?_
    exact jr.ireturn rfl rfl rfl (q _ (by first | exact rgq rfl | omega) )
  · refine jr.aload_n rfl rfl ?_
    obtain ⟨v2, e2⟩ : ∃ z_, M 413 10 = z_ := ⟨_, rfl⟩
    have b2 : (-2147483648) ≤ v2 ∧ v2 ≤ 2147483647 := by rw [← e2]; exact (CI.r hC_M (show kd 413 = 44 from rfl) (by decide) 10)
    refine jr.getf (i := 10) (x := v2) (v := .int (Int32.ofInt (v2))) rfl rfl (nlt rfl) rfl (nlt rfl) rfl rfl e2 rfl ?_
    refine jr.iload_n rfl rfl ?_
    refine jr.icmp_ne rfl rfl (by first | (refine rgb (by assumption) ?_; exact rfl) | omega) (by first | (refine rgb (by assumption) ?_; exact rfl) | omega) (fun h13 => ?_) (fun h13 => ?_)
    · refine jr.iconst rfl ?_
      exact jr.ireturn rfl rfl rfl (q _ (by first | exact rgq rfl | omega) )
    · refine jr.iconst rfl ?_
      refine jr.goto rfl rfl ?_
      exact jr.ireturn rfl rfl rfl (q _ (by first | exact rgq rfl | omega) )
theorem c_Parser_isName {A : Nat → Option (Nat × (Nat → Int32))} [HA A] {Q : Option Value → jm → Prop} {M : jm} (hC_M : CI M) (q : ∀ (r : Int), 0 ≤ r ∧ r ≤ 1 → Q (some (.int (Int32.ofInt r))) M) : jc A 1 219 [.ref (413)] M Q := by
  refine jc_of (m := xm_219) rfl (Nat.le_of_ble_eq_true rfl) rfl ?_
  refine jr.aload_n rfl rfl ?_
  obtain ⟨v1, e1⟩ : ∃ z_, M 413 6 = z_ := ⟨_, rfl⟩
  have b1 : (-2147483648) ≤ v1 ∧ v1 ≤ 2147483647 := by rw [← e1]; exact (CI.r hC_M (show kd 413 = 44 from rfl) (by decide) 6)
  refine jr.getf (i := 6) (x := v1) (v := .int (Int32.ofInt (v1))) rfl rfl (nlt rfl) rfl (nlt rfl) rfl rfl e1 rfl ?_
  refine jr.iconst rfl ?_
  refine jr.icmp_ne rfl rfl (by first | (refine rgb (by assumption) ?_; exact rfl) | omega) (rgl rfl) (fun h5 => ?_) (fun h5 => ?_)
  · refine jr.iconst rfl ?_
    exact jr.ireturn rfl rfl rfl (q _ (by first | exact rgq rfl | omega) )
  · refine jr.aload_n rfl rfl ?_
    obtain ⟨v2, e2⟩ : ∃ z_, M 413 10 = z_ := ⟨_, rfl⟩
    have b2 : (-2147483648) ≤ v2 ∧ v2 ≤ 2147483647 := by rw [← e2]; exact (CI.r hC_M (show kd 413 = 44 from rfl) (by decide) 10)
    refine jr.getf (i := 10) (x := v2) (v := .int (Int32.ofInt (v2))) rfl rfl (nlt rfl) rfl (nlt rfl) rfl rfl e2 rfl ?_
    refine jr.iconst rfl ?_
    refine jr.icmp_ne rfl rfl (by first | (refine rgb (by assumption) ?_; exact rfl) | omega) (rgl rfl) (fun h13 => ?_) (fun h13 => ?_)
    · refine jr.iconst rfl ?_
      exact jr.ireturn rfl rfl rfl (q _ (by first | exact rgq rfl | omega) )
    · refine jr.iconst rfl ?_
      refine jr.goto rfl rfl ?_
      exact jr.ireturn rfl rfl rfl (q _ (by first | exact rgq rfl | omega) )
theorem c_Parser_expsOf {A : Nat → Option (Nat × (Nat → Int32))} [HA A] {Q : Option Value → jm → Prop} {M : jm} (hC_M : CI M) {x : Int} (h_x : (-2147483648) ≤ x ∧ x ≤ 2147483647) (q : ∀ (r : Int), 0 ≤ r ∧ r ≤ 5 → Q (some (.int (Int32.ofInt r))) M) : jc A 1 201 [.int (Int32.ofInt (x))] M Q := by
  refine jc_of (m := xm_201) rfl (Nat.le_of_ble_eq_true rfl) rfl ?_
  refine jr.iload_n rfl rfl ?_
  rcases (show x = 10 ∨ x = 11 ∨ x = 12 ∨ x = 13 ∨ x = 14 ∨ x = 15 ∨ x = 16 ∨ x = 17 ∨ x = 18 ∨ x = 19 ∨ x = 20 ∨ x = 21 ∨ x = 22 ∨ x = 23 ∨ x = 24 ∨ x = 25 ∨ x = 26 ∨ x = 27 ∨ x = 28 ∨ x = 29 ∨ x = 30 ∨ (x ≠ 10 ∧ x ≠ 11 ∧ x ≠ 12 ∧ x ≠ 13 ∧ x ≠ 14 ∧ x ≠ 15 ∧ x ≠ 16 ∧ x ≠ 17 ∧ x ≠ 18 ∧ x ≠ 19 ∧ x ≠ 20 ∧ x ≠ 21 ∧ x ≠ 22 ∧ x ≠ 23 ∧ x ≠ 24 ∧ x ≠ 25 ∧ x ≠ 26 ∧ x ≠ 27 ∧ x ≠ 28 ∧ x ≠ 29 ∧ x ≠ 30) by omega) with h1 | h1 | h1 | h1 | h1 | h1 | h1 | h1 | h1 | h1 | h1 | h1 | h1 | h1 | h1 | h1 | h1 | h1 | h1 | h1 | h1 | h1
  · refine jr.tsw_k 10 rfl h1 rfl ?_
    refine jr.iconst rfl ?_
    exact jr.ireturn rfl rfl rfl (q _ (by first | exact rgq rfl | omega) )
  · refine jr.tsw_k 11 rfl h1 rfl ?_
    refine jr.iconst rfl ?_
    exact jr.ireturn rfl rfl rfl (q _ (by first | exact rgq rfl | omega) )
  · refine jr.tsw_k 12 rfl h1 rfl ?_
    refine jr.iconst rfl ?_
    exact jr.ireturn rfl rfl rfl (q _ (by first | exact rgq rfl | omega) )
  · refine jr.tsw_k 13 rfl h1 rfl ?_
    refine jr.iconst rfl ?_
    exact jr.ireturn rfl rfl rfl (q _ (by first | exact rgq rfl | omega) )
  · refine jr.tsw_k 14 rfl h1 rfl ?_
    refine jr.iconst rfl ?_
    exact jr.ireturn rfl rfl rfl (q _ (by first | exact rgq rfl | omega) )
  · refine jr.tsw_k 15 rfl h1 rfl ?_
    refine jr.iconst rfl ?_
    exact jr.ireturn rfl rfl rfl (q _ (by first | exact rgq rfl | omega) )
  · refine jr.tsw_k 16 rfl h1 rfl ?_
    refine jr.iconst rfl ?_
    exact jr.ireturn rfl rfl rfl (q _ (by first | exact rgq rfl | omega) )
  · refine jr.tsw_k 17 rfl h1 rfl ?_
    refine jr.iconst rfl ?_
    exact jr.ireturn rfl rfl rfl (q _ (by first | exact rgq rfl | omega) )
  · refine jr.tsw_k 18 rfl h1 rfl ?_
    refine jr.iconst rfl ?_
    exact jr.ireturn rfl rfl rfl (q _ (by first | exact rgq rfl | omega) )
  · refine jr.tsw_k 19 rfl h1 rfl ?_
    refine jr.iconst rfl ?_
    exact jr.ireturn rfl rfl rfl (q _ (by first | exact rgq rfl | omega) )
  · refine jr.tsw_k 20 rfl h1 rfl ?_
    refine jr.iconst rfl ?_
    exact jr.ireturn rfl rfl rfl (q _ (by first | exact rgq rfl | omega) )
  · refine jr.tsw_k 21 rfl h1 rfl ?_
    refine jr.iconst rfl ?_
    exact jr.ireturn rfl rfl rfl (q _ (by first | exact rgq rfl | omega) )
  · refine jr.tsw_k 22 rfl h1 rfl ?_
    refine jr.iconst rfl ?_
    exact jr.ireturn rfl rfl rfl (q _ (by first | exact rgq rfl | omega) )
  · refine jr.tsw_k 23 rfl h1 rfl ?_
    refine jr.iconst rfl ?_
    exact jr.ireturn rfl rfl rfl (q _ (by first | exact rgq rfl | omega) )
  · refine jr.tsw_k 24 rfl h1 rfl ?_
    refine jr.iconst rfl ?_
    exact jr.ireturn rfl rfl rfl (q _ (by first | exact rgq rfl | omega) )
  · refine jr.tsw_k 25 rfl h1 rfl ?_
    refine jr.iconst rfl ?_
    exact jr.ireturn rfl rfl rfl (q _ (by first | exact rgq rfl | omega) )
  · refine jr.tsw_k 26 rfl h1 rfl ?_
    refine jr.iconst rfl ?_
    exact jr.ireturn rfl rfl rfl (q _ (by first | exact rgq rfl | omega) )
  · refine jr.tsw_k 27 rfl h1 rfl ?_
    refine jr.iconst rfl ?_
    exact jr.ireturn rfl rfl rfl (q _ (by first | exact rgq rfl | omega) )
  · refine jr.tsw_k 28 rfl h1 rfl ?_
    refine jr.iconst rfl ?_
    exact jr.ireturn rfl rfl rfl (q _ (by first | exact rgq rfl | omega) )
  · refine jr.tsw_k 29 rfl h1 rfl ?_
    refine jr.iconst rfl ?_
    exact jr.ireturn rfl rfl rfl (q _ (by first | exact rgq rfl | omega) )
  · refine jr.tsw_k 30 rfl h1 rfl ?_
    refine jr.iconst rfl ?_
    exact jr.ireturn rfl rfl rfl (q _ (by first | exact rgq rfl | omega) )
  · refine jr.tsw_d rfl (by omega) (by omega) rfl ?_
    refine jr.iconst rfl ?_
    exact jr.ireturn rfl rfl rfl (q _ (by first | exact rgq rfl | omega) )
theorem c_Parser_rankOfSign {A : Nat → Option (Nat × (Nat → Int32))} [HA A] {Q : Option Value → jm → Prop} {M : jm} (hC_M : CI M) (q : ∀ (r : Int), 0 ≤ r ∧ r ≤ 9 → Q (some (.int (Int32.ofInt r))) M) : jc A 1 204 [.ref (413)] M Q := by
  refine jc_of (m := xm_204) rfl (Nat.le_of_ble_eq_true rfl) rfl ?_
  refine jr.aload_n rfl rfl ?_
  obtain ⟨v1, e1⟩ : ∃ z_, M 413 6 = z_ := ⟨_, rfl⟩
  have b1 : (-2147483648) ≤ v1 ∧ v1 ≤ 2147483647 := by rw [← e1]; exact (CI.r hC_M (show kd 413 = 44 from rfl) (by decide) 6)
  refine jr.getf (i := 6) (x := v1) (v := .int (Int32.ofInt (v1))) rfl rfl (nlt rfl) rfl (nlt rfl) rfl rfl e1 rfl ?_
  refine jr.iconst rfl ?_
  refine jr.icmp_eq rfl rfl (by first | (refine rgb (by assumption) ?_; exact rfl) | omega) (rgl rfl) (fun h5 => ?_) (fun h5 => ?_)
  · refine jr.aload_n rfl rfl ?_
    obtain ⟨v2, e2⟩ : ∃ z_, M 413 11 = z_ := ⟨_, rfl⟩
    have b2 : 0 ≤ v2 ∧ v2 ≤ 255 := by rw [← e2]; exact (CI.r hC_M (show kd 413 = 44 from rfl) (by decide) 11)
    refine jr.getf (i := 11) (x := v2) (v := .int (Int32.ofInt (v2))) rfl rfl (nlt rfl) rfl (nlt rfl) rfl rfl e2 rfl ?_
    rcases (show v2 = 37 ∨ v2 = 38 ∨ v2 = 42 ∨ v2 = 43 ∨ v2 = 45 ∨ v2 = 47 ∨ v2 = 60 ∨ v2 = 61 ∨ v2 = 62 ∨ v2 = 124 ∨ (v2 ≠ 37 ∧ v2 ≠ 38 ∧ v2 ≠ 42 ∧ v2 ≠ 43 ∧ v2 ≠ 45 ∧ v2 ≠ 47 ∧ v2 ≠ 60 ∧ v2 ≠ 61 ∧ v2 ≠ 62 ∧ v2 ≠ 124) by omega) with h15 | h15 | h15 | h15 | h15 | h15 | h15 | h15 | h15 | h15 | h15
    · refine jr.lsw_k 37 rfl h15 rfl ?_
      refine jr.iconst rfl ?_
      exact jr.ireturn rfl rfl rfl (q _ (by first | exact rgq rfl | omega) )
    · refine jr.lsw_k 38 rfl h15 rfl ?_
      refine jr.iconst rfl ?_
      exact jr.ireturn rfl rfl rfl (q _ (by first | exact rgq rfl | omega) )
    · refine jr.lsw_k 42 rfl h15 rfl ?_
      refine jr.iconst rfl ?_
      exact jr.ireturn rfl rfl rfl (q _ (by first | exact rgq rfl | omega) )
    · refine jr.lsw_k 43 rfl h15 rfl ?_
      refine jr.iconst rfl ?_
      exact jr.ireturn rfl rfl rfl (q _ (by first | exact rgq rfl | omega) )
    · refine jr.lsw_k 45 rfl h15 rfl ?_
      refine jr.iconst rfl ?_
      exact jr.ireturn rfl rfl rfl (q _ (by first | exact rgq rfl | omega) )
    · refine jr.lsw_k 47 rfl h15 rfl ?_
      refine jr.iconst rfl ?_
      exact jr.ireturn rfl rfl rfl (q _ (by first | exact rgq rfl | omega) )
    · refine jr.lsw_k 60 rfl h15 rfl ?_
      refine jr.iconst rfl ?_
      exact jr.ireturn rfl rfl rfl (q _ (by first | exact rgq rfl | omega) )
    · refine jr.lsw_k 61 rfl h15 rfl ?_
      refine jr.iconst rfl ?_
      exact jr.ireturn rfl rfl rfl (q _ (by first | exact rgq rfl | omega) )
    · refine jr.lsw_k 62 rfl h15 rfl ?_
      refine jr.iconst rfl ?_
      exact jr.ireturn rfl rfl rfl (q _ (by first | exact rgq rfl | omega) )
    · refine jr.lsw_k 124 rfl h15 rfl ?_
      refine jr.iconst rfl ?_
      exact jr.ireturn rfl rfl rfl (q _ (by first | exact rgq rfl | omega) )
    · refine jr.lsw_d rfl (by omega) rfl (fun q hq => by simp only [List.mem_cons, List.not_mem_nil, or_false] at hq; rcases hq with rfl | rfl | rfl | rfl | rfl | rfl | rfl | rfl | rfl | rfl <;> (simp only; omega)) rfl ?_
      refine jr.bipush rfl (jbp _ (nlt rfl)) ?_
      exact jr.ireturn rfl rfl rfl (q _ (by first | exact rgq rfl | omega) )
  · refine jr.bipush rfl (jbp _ (nlt rfl)) ?_
    exact jr.ireturn rfl rfl rfl (q _ (by first | exact rgq rfl | omega) )
theorem c_Flow_hasEnd {A : Nat → Option (Nat × (Nat → Int32))} {Q : Option Value → jm → Prop} {M : jm} (hC_M : CI M) {x : Nat} (k_x : kd x = 1) {y : Int} (h_y : 0 ≤ y ∧ y ≤ 1) {z : Int} (h_z : (-9223372036854775808) ≤ z ∧ z ≤ 9223372036854775807) {u : Int} (h_u : (-2147483648) ≤ u ∧ u ≤ 2147483647) (q : ∀ (r : Int), 0 ≤ r ∧ r ≤ 1 → Q (some (.int (Int32.ofInt r))) M) : jc A 1 66 [.ref (x), .int (Int32.ofInt (y)), .long (Int64.ofInt (z)), .int (Int32.ofInt (u))] M Q := by
  refine jc_of (m := xm_66) rfl (Nat.le_of_ble_eq_true rfl) rfl ?_
  refine jr.aload_n rfl rfl ?_
  have k1 := kf_1_3 k_x
  refine jr.getf (i := 3) (v := .ref (x + 1)) rfl rfl (Nat.lt_trans (kx_1 k_x).1 (by decide)) (kx_1 k_x).2 (by decide) rfl rfl rfl (jval_ref rfl k1.1) ?_
  refine jr.iload_n rfl rfl ?_
  obtain ⟨v2, e2⟩ : ∃ z_, M ((x + 1)) y = z_ := ⟨_, rfl⟩
  have b2 : (-9223372036854775808) ≤ v2 ∧ v2 ≤ 9223372036854775807 := by rw [← e2]; exact (CI.r hC_M k1.2 (by decide) y)
  refine jr.lald (i := y) (x := v2) rfl (Nat.lt_trans (kx_2 k1.2).1 (by decide)) (kx_2 k1.2).2 (by decide) (by omega) (by omega) e2 ?_
  refine jr.lload_n rfl rfl ?_
  refine jr.lcmp_ne rfl rfl rfl (by omega) (by omega) (fun h7 => ?_) (fun h7 => ?_)
  · refine jr.iconst rfl ?_
    exact jr.ireturn rfl rfl rfl (q _ (by first | exact rgq rfl | omega) )
  · refine jr.aload_n rfl rfl ?_
    have k3 := kf_1_4 k_x
    refine jr.getf (i := 4) (v := .ref (x + 2)) rfl rfl (Nat.lt_trans (kx_1 k_x).1 (by decide)) (kx_1 k_x).2 (by decide) rfl rfl rfl (jval_ref rfl k3.1) ?_
    refine jr.iload_n rfl rfl ?_
    obtain ⟨v4, e4⟩ : ∃ z_, M ((x + 2)) y = z_ := ⟨_, rfl⟩
    have b4 : (-2147483648) ≤ v4 ∧ v4 ≤ 2147483647 := by rw [← e4]; exact (CI.r hC_M k3.2 (by decide) y)
    refine jr.iald (i := y) (x := v4) rfl (Nat.lt_trans (kx_7 k3.2).1 (by decide)) (kx_7 k3.2).2 (by decide) (by omega) (by omega) e4 ?_
    refine jr.iload rfl rfl ?_
    refine jr.icmp_ne rfl rfl (by first | (refine rgb (by assumption) ?_; exact rfl) | omega) (by first | (refine rgb (by assumption) ?_; exact rfl) | omega) (fun h19 => ?_) (fun h19 => ?_)
    · refine jr.iconst rfl ?_
      exact jr.ireturn rfl rfl rfl (q _ (by first | exact rgq rfl | omega) )
    · refine jr.iconst rfl ?_
      refine jr.goto rfl rfl ?_
      exact jr.ireturn rfl rfl rfl (q _ (by first | exact rgq rfl | omega) )
theorem c_Memory_setItem {A : Nat → Option (Nat × (Nat → Int32))} {Q : Option Value → jm → Prop} {M : jm} (hC_M : CI M) {t : Nat} (k_t : kd t = 27) {x : Int} (h_x : 0 ≤ x ∧ x ≤ 3) {y : Int} (h_y : (-2147483648) ≤ y ∧ y ≤ 2147483647) (q : ∀ (r : Int), (-9223372036854775808) ≤ r ∧ r ≤ 9223372036854775807 → Q (some (.long (Int64.ofInt r))) M) : jc A 1 186 [.ref (t), .int (Int32.ofInt (x)), .int (Int32.ofInt (y))] M Q := by
  refine jc_of (m := xm_186) rfl (Nat.le_of_ble_eq_true rfl) rfl ?_
  refine jr.iload_n rfl rfl ?_
  refine jr.if_lt rfl rfl (by first | (refine rgb (by assumption) ?_; exact rfl) | omega) (fun h1 => ?_) (fun h1 => ?_)
  · refine jr.ldc2 (x := (-1)) rfl rfl (by decide) ?_
    refine jr.goto rfl rfl ?_
    exact jr.lreturn rfl rfl (q _ (by omega) )
  · refine jr.iload_n rfl rfl ?_
    refine jr.aload_n rfl rfl ?_
    have k1 := kf_27_3 k_t
    refine jr.getf (i := 3) (v := .ref (t + 4)) rfl rfl (Nat.lt_trans (kx_27 k_t).1 (by decide)) (kx_27 k_t).2 (by decide) rfl rfl rfl (jval_ref rfl k1.1) ?_
    refine jr.iload_n rfl rfl ?_
    obtain ⟨v2, e2⟩ : ∃ z_, M ((t + 4)) x = z_ := ⟨_, rfl⟩
    have b2 : 0 ≤ v2 ∧ v2 ≤ 16 := by rw [← e2]; exact (CI.r hC_M k1.2 (by decide) x)
    refine jr.iald (i := x) (x := v2) rfl (Nat.lt_trans (kx_32 k1.2).1 (by decide)) (kx_32 k1.2).2 (by decide) (by omega) (by omega) e2 ?_
    refine jr.icmp_lt rfl rfl (by first | (refine rgb (by assumption) ?_; exact rfl) | omega) (by first | (refine rgb (by assumption) ?_; exact rfl) | omega) (fun h11 => ?_) (fun h11 => ?_)
    · refine jr.aload_n rfl rfl ?_
      have k3 := kf_27_2 k_t
      refine jr.getf (i := 2) (v := .ref (t + 3)) rfl rfl (Nat.lt_trans (kx_27 k_t).1 (by decide)) (kx_27 k_t).2 (by decide) rfl rfl rfl (jval_ref rfl k3.1) ?_
      refine jr.iload_n rfl rfl ?_
      refine jr.bipush rfl (jbp _ (nlt rfl)) ?_
      refine jr.imul rfl ?_
      refine jr.iload_n rfl rfl ?_
      refine jr.iadd rfl ?_
      obtain ⟨v4, e4⟩ : ∃ z_, M ((t + 3)) ((x * 16) + y) = z_ := ⟨_, rfl⟩
      have b4 : (-9223372036854775808) ≤ v4 ∧ v4 ≤ 9223372036854775807 := by rw [← e4]; exact (CI.r hC_M k3.2 (by decide) ((x * 16) + y))
      refine jr.lald (i := ((x * 16) + y)) (x := v4) rfl (Nat.lt_trans (kx_31 k3.2).1 (by decide)) (kx_31 k3.2).2 (by decide) (by omega) (by omega) e4 ?_
      exact jr.lreturn rfl rfl (q _ (by omega) )
    · refine jr.ldc2 (x := (-1)) rfl rfl (by decide) ?_
      refine jr.goto rfl rfl ?_
      exact jr.lreturn rfl rfl (q _ (by omega) )
theorem c_PacketWall_isPacket {A : Nat → Option (Nat × (Nat → Int32))} {Q : Option Value → jm → Prop} {M : jm} (hC_M : CI M) {x : Int} (h_x : (-2147483648) ≤ x ∧ x ≤ 2147483647) (q : ∀ (r : Int), 0 ≤ r ∧ r ≤ 1 → (r = 0 ∨ (0 ≤ x ∧ x ≤ 23)) → Q (some (.int (Int32.ofInt r))) M) : jc A 2 42 [.ref (0), .int (Int32.ofInt (x))] M Q := by
  refine jc_of (m := xm_42) rfl (Nat.le_of_ble_eq_true rfl) rfl ?_
  refine jr.iload_n rfl rfl ?_
  refine jr.if_lt rfl rfl (by first | (refine rgb (by assumption) ?_; exact rfl) | omega) (fun h1 => ?_) (fun h1 => ?_)
  · refine jr.iconst rfl ?_
    exact jr.ireturn rfl rfl rfl (q _ (by first | exact rgq rfl | omega) (by omega))
  · refine jr.iload_n rfl rfl ?_
    refine jr.bipush rfl (jbp _ (nlt rfl)) ?_
    refine jr.icmp_ge rfl rfl (by first | (refine rgb (by assumption) ?_; exact rfl) | omega) (rgl rfl) (fun h7 => ?_) (fun h7 => ?_)
    · refine jr.iconst rfl ?_
      exact jr.ireturn rfl rfl rfl (q _ (by first | exact rgq rfl | omega) (by omega))
    · refine jr.aload_n rfl rfl ?_
      refine jr.getf (i := 2) (v := .ref 2) rfl rfl (nlt rfl) rfl (nlt rfl) rfl rfl rfl rfl ?_
      refine jr.iload_n rfl rfl ?_
      have k1 := kxe_42 (a := 2) rfl (i := x) (by omega) (by omega)
      refine jr.aald (c := (xe 2 x)) rfl (by decide) rfl (by decide) (by decide) rfl (by decide) (by omega) (by omega) k1.1 ?_
      refine jr_v rfl rfl (Or.inl rfl) rfl rfl (Nat.lt_trans (kx_33 k1.2).1 (by decide)) (kx_33 k1.2).2 ⟨rfl, Nat.le_of_ble_eq_true rfl, Nat.le_of_ble_eq_true rfl⟩ rfl (jc.deep (c_Packet_isThere hC_M k1.2 (fun r2 z2 w2_0 => ?_)) (Nat.le_of_ble_eq_true rfl))
      obtain ⟨v3, e3⟩ : ∃ z_, M ((xe 2 x)) 1 = z_ := ⟨_, rfl⟩
      have b3 : (-1) ≤ v3 ∧ v3 ≤ 400 := by rw [← e3]; exact (CI.r hC_M k1.2 (by decide) 1)
      refine jr.if_eq rfl rfl (by first | (refine rgb (by assumption) ?_; exact rfl) | omega) (fun h19 => ?_) (fun h19 => ?_)
      · refine jr.iconst rfl ?_
        exact jr.ireturn rfl rfl rfl (q _ (by first | exact rgq rfl | omega) (by omega))
      · have sx19 : (1 : Int) ≤ r2 := by omega
        clear h19
        refine jr.iconst rfl ?_
        refine jr.goto rfl rfl ?_
        exact jr.ireturn rfl rfl rfl (q _ (by first | exact rgq rfl | omega) (by omega))
noncomputable def W_c_Machine_isRow : List (Nat × Nat) := [(22, 4), (24, 1000)]
theorem c_Machine_isRow {A : Nat → Option (Nat × (Nat → Int32))} {Q : Option Value → jm → Prop} {T : jm} {M : jm} (hC_M : CI M) (ht_M : FR W_c_Machine_isRow T M) {x : Int} (h_x : (-9223372036854775808) ≤ x ∧ x ≤ 9223372036854775807) (q : ∀ (r : Int) (M' : jm), CI M' → FR W_c_Machine_isRow T M' → 0 ≤ r ∧ r ≤ 1 → (r = 0 ∨ (0 ≤ x ∧ x ≤ 7)) → Q (some (.int (Int32.ofInt r))) M') : jc A 2 167 [.ref (421), .long (Int64.ofInt (x))] M Q := by
  refine jc_of (m := xm_167) rfl (Nat.le_of_ble_eq_true rfl) rfl ?_
  refine jr.lload_n rfl rfl ?_
  refine jr.bipush rfl (jbp _ (nlt rfl)) ?_
  refine jr_s rfl rfl (Or.inl rfl) ⟨Nat.le_of_ble_eq_true rfl, Nat.le_of_ble_eq_true rfl⟩ rfl rfl (jc.deep (c_Machine_isNot hC_M (by omega) (by omega) (fun r1 z1 w1_0 => ?_)) (Nat.le_of_ble_eq_true rfl))
  refine jr.if_eq rfl rfl (by first | (refine rgb (by assumption) ?_; exact rfl) | omega) (fun h6 => ?_) (fun h6 => ?_)
  · refine jr.aload_n rfl rfl ?_
    refine jr.getf (i := 0) (v := .ref 422) rfl rfl (nlt rfl) rfl (nlt rfl) rfl rfl rfl rfl ?_
    refine jr.lload_n rfl rfl ?_
    refine jr.l2i rfl ?_
    have k2 := kxe_25 (a := 422) rfl (i := x) (by omega) (by omega)
    refine jr.aald (c := (xe 422 x)) rfl (by decide) rfl (by decide) (by decide) rfl (by decide) (by omega) (by omega) k2.1 ?_
    obtain ⟨v3, e3⟩ : ∃ z_, M ((xe 422 x)) 0 = z_ := ⟨_, rfl⟩
    have b3 : (-2147483648) ≤ v3 ∧ v3 ≤ 2147483647 := by rw [← e3]; exact (CI.r hC_M k2.2 (by decide) 0)
    refine jr.getf (i := 0) (x := v3) (v := .int (Int32.ofInt (v3))) rfl rfl (Nat.lt_trans (kx_52 k2.2).1 (by decide)) (kx_52 k2.2).2 (by decide) rfl rfl e3 rfl ?_
    refine jr.iconst rfl ?_
    refine jr.icmp_ne rfl rfl (by first | (refine rgb (by assumption) ?_; exact rfl) | omega) (rgl rfl) (fun h27 => ?_) (fun h27 => ?_)
    · refine jr.iconst rfl ?_
      exact jr.ireturn rfl rfl rfl (q _ _ hC_M ht_M (by first | exact rgq rfl | omega) (by omega))
    · refine jr.aload_n rfl rfl ?_
      refine jr.iconst rfl ?_
      refine jr_v rfl rfl (Or.inl rfl) rfl rfl (nlt rfl) rfl ⟨rfl, Nat.le_of_ble_eq_true rfl, Nat.le_of_ble_eq_true rfl⟩ rfl (jc.deep (c_Machine_fail hC_M (FR.rfl _ M) (by omega) (fun M4 hC_M4 hf_M4  => ?_)) (Nat.le_of_ble_eq_true rfl))
      have ht_M4 : FR W_c_Machine_isRow T M4 := FR.t ht_M hf_M4 (kw_sub rfl)
      refine jr.iconst rfl ?_
      exact jr.ireturn rfl rfl rfl (q _ _ hC_M4 ht_M4 (by first | exact rgq rfl | omega) (by omega))
  · have sx6 : (1 : Int) ≤ r1 := by omega
    clear h6
    refine jr.aload_n rfl rfl ?_
    refine jr.iconst rfl ?_
    refine jr_v rfl rfl (Or.inl rfl) rfl rfl (nlt rfl) rfl ⟨rfl, Nat.le_of_ble_eq_true rfl, Nat.le_of_ble_eq_true rfl⟩ rfl (jc.deep (c_Machine_fail hC_M (FR.rfl _ M) (by omega) (fun M5 hC_M5 hf_M5  => ?_)) (Nat.le_of_ble_eq_true rfl))
    have ht_M5 : FR W_c_Machine_isRow T M5 := FR.t ht_M hf_M5 (kw_sub rfl)
    refine jr.iconst rfl ?_
    exact jr.ireturn rfl rfl rfl (q _ _ hC_M5 ht_M5 (by first | exact rgq rfl | omega) (by omega))
noncomputable def W_c_Machine_count : List (Nat × Nat) := [(22, 4), (24, 1000), (29, 1000)]
theorem c_Machine_count {A : Nat → Option (Nat × (Nat → Int32))} {Q : Option Value → jm → Prop} {T : jm} {M : jm} (hC_M : CI M) (ht_M : FR W_c_Machine_count T M) (q : ∀ (M' : jm), CI M' → FR W_c_Machine_count T M' → Q none M') : jc A 2 175 [.ref (421)] M Q := by
  refine jc_of (m := xm_175) rfl (Nat.le_of_ble_eq_true rfl) rfl ?_
  refine jr.aload_n rfl rfl ?_
  refine jr.getf (i := 8) (v := .ref 435) rfl rfl (nlt rfl) rfl (nlt rfl) rfl rfl rfl rfl ?_
  refine jr.iconst rfl ?_
  obtain ⟨v1, e1⟩ : ∃ z_, M 435 0 = z_ := ⟨_, rfl⟩
  have b1 : (-9223372036854775808) ≤ v1 ∧ v1 ≤ 9223372036854775807 := by rw [← e1]; exact (CI.r hC_M (show kd 435 = 26 from rfl) (by decide) 0)
  refine jr.lald (i := 0) (x := v1) rfl (nlt rfl) rfl (Nat.le_of_ble_eq_true rfl) (by omega) (by omega) e1 ?_
  refine jr.bipush rfl (jbp _ (nlt rfl)) ?_
  refine jr_s rfl rfl (Or.inl rfl) ⟨Nat.le_of_ble_eq_true rfl, Nat.le_of_ble_eq_true rfl⟩ rfl rfl (jc.deep (c_Machine_isNot hC_M (by omega) (by omega) (fun r2 z2 w2_0 => ?_)) (Nat.le_of_ble_eq_true rfl))
  refine jr.if_eq rfl rfl (by first | (refine rgb (by assumption) ?_; exact rfl) | omega) (fun h11 => ?_) (fun h11 => ?_)
  · refine jr.aload_n rfl rfl ?_
    refine jr.getf (i := 1) (v := .ref 423) rfl rfl (nlt rfl) rfl (nlt rfl) rfl rfl rfl rfl ?_
    refine jr.getf (i := 0) (v := .ref 424) rfl rfl (nlt rfl) rfl (nlt rfl) rfl rfl rfl rfl ?_
    refine jr.aload_n rfl rfl ?_
    refine jr.getf (i := 8) (v := .ref 435) rfl rfl (nlt rfl) rfl (nlt rfl) rfl rfl rfl rfl ?_
    refine jr.iconst rfl ?_
    refine jr.lald (i := 0) (x := v1) rfl (nlt rfl) rfl (Nat.le_of_ble_eq_true rfl) (by omega) (by omega) e1 ?_
    refine jr.l2i rfl ?_
    refine jr.dup2 rfl ⟨rfl, rfl⟩ ?_
    obtain ⟨v3, e3⟩ : ∃ z_, M 424 v1 = z_ := ⟨_, rfl⟩
    have b3 : (-9223372036854775808) ≤ v3 ∧ v3 ≤ 9223372036854775807 := by rw [← e3]; exact (CI.r hC_M (show kd 424 = 29 from rfl) (by decide) v1)
    refine jr.lald (i := v1) (x := v3) rfl (nlt rfl) rfl (Nat.le_of_ble_eq_true rfl) (by omega) (by omega) e3 ?_
    refine jr.aload_n rfl rfl ?_
    refine jr.getf (i := 8) (v := .ref 435) rfl rfl (nlt rfl) rfl (nlt rfl) rfl rfl rfl rfl ?_
    refine jr.iconst rfl ?_
    obtain ⟨v4, e4⟩ : ∃ z_, M 435 1 = z_ := ⟨_, rfl⟩
    have b4 : (-9223372036854775808) ≤ v4 ∧ v4 ≤ 9223372036854775807 := by rw [← e4]; exact (CI.r hC_M (show kd 435 = 26 from rfl) (by decide) 1)
    refine jr.lald (i := 1) (x := v4) rfl (nlt rfl) rfl (Nat.le_of_ble_eq_true rfl) (by omega) (by omega) e4 ?_
    refine jr.ladd rfl ?_
    refine jr.lw (jl_w (v3 + v4)) (jl_w_eq _) ?_
    have b5 : -9223372036854775808 ≤ jl_w (v3 + v4) ∧ jl_w (v3 + v4) ≤ 9223372036854775807 := jbl_any _
    generalize jl_w (v3 + v4) = v5 at b5 ⊢
    refine jr.last (i := v1) (x := v5) rfl (nlt rfl) rfl (Nat.le_of_ble_eq_true rfl) (by omega) (by omega) ?_
    exact jr.vreturn rfl rfl (q _ (CI.u hC_M (i := v1) (show kd 424 = 29 from rfl) (show (-9223372036854775808 : Int) ≤ _ ∧ _ ≤ (9223372036854775807 : Int) from by omega) rfl) (FR.o ht_M (show kd 424 = 29 from rfl) rfl)  )
  · have sx11 : (1 : Int) ≤ r2 := by omega
    clear h11
    refine jr.aload_n rfl rfl ?_
    refine jr.iconst rfl ?_
    refine jr_v rfl rfl (Or.inl rfl) rfl rfl (nlt rfl) rfl ⟨rfl, Nat.le_of_ble_eq_true rfl, Nat.le_of_ble_eq_true rfl⟩ rfl (jc.deep (c_Machine_fail hC_M (FR.rfl _ M) (by omega) (fun M6 hC_M6 hf_M6  => ?_)) (Nat.le_of_ble_eq_true rfl))
    have ht_M6 : FR W_c_Machine_count T M6 := FR.t ht_M hf_M6 (kw_sub rfl)
    refine jr.goto rfl rfl ?_
    exact jr.vreturn rfl rfl (q _ hC_M6 ht_M6  )
noncomputable def W_c_Machine_pushTruth : List (Nat × Nat) := [(22, 9), (26, 1000)]
theorem c_Machine_pushTruth {A : Nat → Option (Nat × (Nat → Int32))} {Q : Option Value → jm → Prop} {T : jm} {M : jm} (hC_M : CI M) (ht_M : FR W_c_Machine_pushTruth T M) {x : Int} (h_x : 0 ≤ x ∧ x ≤ 1) (q : ∀ (M' : jm), CI M' → FR W_c_Machine_pushTruth T M' → Q none M') : jc A 2 155 [.ref (421), .int (Int32.ofInt (x))] M Q := by
  refine jc_of (m := xm_155) rfl (Nat.le_of_ble_eq_true rfl) rfl ?_
  refine jr.aload_n rfl rfl ?_
  refine jr.iload_n rfl rfl ?_
  refine jr.if_eq rfl rfl (by first | (refine rgb (by assumption) ?_; exact rfl) | omega) (fun h2 => ?_) (fun h2 => ?_)
  · refine jr.lconst (x := 0) rfl (by decide) ?_
    refine jr_v rfl rfl (Or.inl rfl) rfl rfl (nlt rfl) rfl ⟨rfl, Nat.le_of_ble_eq_true rfl, Nat.le_of_ble_eq_true rfl⟩ rfl (jc.deep (c_Machine_push hC_M (FR.rfl _ M) (by omega) (fun M1 hC_M1 hf_M1  => ?_)) (Nat.le_of_ble_eq_true rfl))
    have ht_M1 : FR W_c_Machine_pushTruth T M1 := FR.t ht_M hf_M1 (kw_sub rfl)
    exact jr.vreturn rfl rfl (q _ hC_M1 ht_M1  )
  · have sx2 : (1 : Int) ≤ x := by omega
    clear h2
    refine jr.lconst (x := 1) rfl (by decide) ?_
    refine jr.goto rfl rfl ?_
    refine jr_v rfl rfl (Or.inl rfl) rfl rfl (nlt rfl) rfl ⟨rfl, Nat.le_of_ble_eq_true rfl, Nat.le_of_ble_eq_true rfl⟩ rfl (jc.deep (c_Machine_push hC_M (FR.rfl _ M) (by omega) (fun M2 hC_M2 hf_M2  => ?_)) (Nat.le_of_ble_eq_true rfl))
    have ht_M2 : FR W_c_Machine_pushTruth T M2 := FR.t ht_M hf_M2 (kw_sub rfl)
    exact jr.vreturn rfl rfl (q _ hC_M2 ht_M2  )
noncomputable def W_c_Machine_spend : List (Nat × Nat) := [(22, 4), (22, 9), (24, 1000), (26, 1000), (28, 1000)]
theorem c_Machine_spend {A : Nat → Option (Nat × (Nat → Int32))} {Q : Option Value → jm → Prop} {T : jm} {M : jm} (hC_M : CI M) (ht_M : FR W_c_Machine_spend T M) {x : Int} (h_x : (-9223372036854775808) ≤ x ∧ x ≤ 9223372036854775807) (q : ∀ (M' : jm), CI M' → FR W_c_Machine_spend T M' → Q none M') : jc A 3 161 [.ref (421), .long (Int64.ofInt (x))] M Q := by
  refine jc_of (m := xm_161) rfl (Nat.le_of_ble_eq_true rfl) rfl ?_
  refine jr.lload_n rfl rfl ?_
  refine jr.iconst rfl ?_
  refine jr_s rfl rfl (Or.inl rfl) ⟨Nat.le_of_ble_eq_true rfl, Nat.le_of_ble_eq_true rfl⟩ rfl rfl (jc.deep (c_Machine_isNot hC_M (by omega) (by omega) (fun r1 z1 w1_0 => ?_)) (Nat.le_of_ble_eq_true rfl))
  refine jr.if_eq rfl rfl (by first | (refine rgb (by assumption) ?_; exact rfl) | omega) (fun h5 => ?_) (fun h5 => ?_)
  · refine jr.aload_n rfl rfl ?_
    refine jr.getf (i := 1) (v := .ref 423) rfl rfl (nlt rfl) rfl (nlt rfl) rfl rfl rfl rfl ?_
    refine jr.getf (i := 1) (v := .ref 425) rfl rfl (nlt rfl) rfl (nlt rfl) rfl rfl rfl rfl ?_
    refine jr.lload_n rfl rfl ?_
    refine jr.l2i rfl ?_
    obtain ⟨v2, e2⟩ : ∃ z_, M 425 x = z_ := ⟨_, rfl⟩
    have b2 : (-2147483648) ≤ v2 ∧ v2 ≤ 2147483647 := by rw [← e2]; exact (CI.r hC_M (show kd 425 = 28 from rfl) (by decide) x)
    refine jr.iald (i := x) (x := v2) rfl (nlt rfl) rfl (Nat.le_of_ble_eq_true rfl) (by omega) (by omega) e2 ?_
    refine jr.if_le rfl rfl (by first | (refine rgb (by assumption) ?_; exact rfl) | omega) (fun h24 => ?_) (fun h24 => ?_)
    · refine jr.iconst rfl ?_
      refine jr.istore_n (ls' := [_, _, _]) rfl (nlt rfl) rfl ?_
      refine jr.aload_n rfl rfl ?_
      refine jr.getf (i := 1) (v := .ref 423) rfl rfl (nlt rfl) rfl (nlt rfl) rfl rfl rfl rfl ?_
      refine jr.getf (i := 1) (v := .ref 425) rfl rfl (nlt rfl) rfl (nlt rfl) rfl rfl rfl rfl ?_
      refine jr.lload_n rfl rfl ?_
      refine jr.l2i rfl ?_
      refine jr.dup2 rfl ⟨rfl, rfl⟩ ?_
      refine jr.iald (i := x) (x := v2) rfl (nlt rfl) rfl (Nat.le_of_ble_eq_true rfl) (by omega) (by omega) e2 ?_
      refine jr.iload_n rfl rfl ?_
      refine jr.if_eq rfl rfl (by first | exact rgl rfl | omega) (fun _ => ?_) (fun h => absurd (by decide) h)
      refine jr.iconst rfl ?_
      refine jr.isub rfl ?_
      refine jr.iast (i := x) (x := (v2 - 0)) rfl (nlt rfl) rfl (Nat.le_of_ble_eq_true rfl) (by omega) (by omega) ?_
      refine jr.aload_n rfl rfl ?_
      refine jr.iload_n rfl rfl ?_
      refine jr_v rfl rfl (Or.inl rfl) rfl rfl (nlt rfl) rfl ⟨rfl, Nat.le_of_ble_eq_true rfl, Nat.le_of_ble_eq_true rfl⟩ rfl (jc.deep (c_Machine_pushTruth (CI.u hC_M (i := x) (show kd 425 = 28 from rfl) (show (-2147483648 : Int) ≤ _ ∧ _ ≤ (2147483647 : Int) from by omega) rfl) (FR.rfl _ ((ju M 425 x (v2 - 0)))) (by omega) (fun M3 hC_M3 hf_M3  => ?_)) (Nat.le_of_ble_eq_true rfl))
      have ht_M3 : FR W_c_Machine_spend T M3 := FR.t (FR.o ht_M (show kd 425 = 28 from rfl) rfl) hf_M3 (kw_sub rfl)
      exact jr.vreturn rfl rfl (q _ hC_M3 ht_M3  )
    · refine jr.iconst rfl ?_
      refine jr.goto rfl rfl ?_
      refine jr.istore_n (ls' := [_, _, _]) rfl (nlt rfl) rfl ?_
      refine jr.aload_n rfl rfl ?_
      refine jr.getf (i := 1) (v := .ref 423) rfl rfl (nlt rfl) rfl (nlt rfl) rfl rfl rfl rfl ?_
      refine jr.getf (i := 1) (v := .ref 425) rfl rfl (nlt rfl) rfl (nlt rfl) rfl rfl rfl rfl ?_
      refine jr.lload_n rfl rfl ?_
      refine jr.l2i rfl ?_
      refine jr.dup2 rfl ⟨rfl, rfl⟩ ?_
      refine jr.iald (i := x) (x := v2) rfl (nlt rfl) rfl (Nat.le_of_ble_eq_true rfl) (by omega) (by omega) e2 ?_
      refine jr.iload_n rfl rfl ?_
      refine jr.if_eq rfl rfl (by first | exact rgl rfl | omega) (fun h => absurd h (by decide)) (fun _ => ?_)
      refine jr.iconst rfl ?_
      refine jr.goto rfl rfl ?_
      refine jr.isub rfl ?_
      refine jr.iast (i := x) (x := (v2 - 1)) rfl (nlt rfl) rfl (Nat.le_of_ble_eq_true rfl) (by omega) (by omega) ?_
      refine jr.aload_n rfl rfl ?_
      refine jr.iload_n rfl rfl ?_
      refine jr_v rfl rfl (Or.inl rfl) rfl rfl (nlt rfl) rfl ⟨rfl, Nat.le_of_ble_eq_true rfl, Nat.le_of_ble_eq_true rfl⟩ rfl (jc.deep (c_Machine_pushTruth (CI.u hC_M (i := x) (show kd 425 = 28 from rfl) (show (-2147483648 : Int) ≤ _ ∧ _ ≤ (2147483647 : Int) from by omega) rfl) (FR.rfl _ ((ju M 425 x (v2 - 1)))) (by omega) (fun M4 hC_M4 hf_M4  => ?_)) (Nat.le_of_ble_eq_true rfl))
      have ht_M4 : FR W_c_Machine_spend T M4 := FR.t (FR.o ht_M (show kd 425 = 28 from rfl) rfl) hf_M4 (kw_sub rfl)
      exact jr.vreturn rfl rfl (q _ hC_M4 ht_M4  )
  · have sx5 : (1 : Int) ≤ r1 := by omega
    clear h5
    refine jr.aload_n rfl rfl ?_
    refine jr.iconst rfl ?_
    refine jr_v rfl rfl (Or.inl rfl) rfl rfl (nlt rfl) rfl ⟨rfl, Nat.le_of_ble_eq_true rfl, Nat.le_of_ble_eq_true rfl⟩ rfl (jc.deep (c_Machine_fail hC_M (FR.rfl _ M) (by omega) (fun M5 hC_M5 hf_M5  => ?_)) (Nat.le_of_ble_eq_true rfl))
    have ht_M5 : FR W_c_Machine_spend T M5 := FR.t ht_M hf_M5 (kw_sub rfl)
    exact jr.vreturn rfl rfl (q _ hC_M5 ht_M5  )
noncomputable def W_c_Machine_isItemOfNumbers : List (Nat × Nat) := [(22, 4), (24, 1000)]
theorem c_Machine_isItemOfNumbers {A : Nat → Option (Nat × (Nat → Int32))} {Q : Option Value → jm → Prop} {T : jm} {M : jm} (hC_M : CI M) (ht_M : FR W_c_Machine_isItemOfNumbers T M) {x : Int} (h_x : (-9223372036854775808) ≤ x ∧ x ≤ 9223372036854775807) {y : Int} (h_y : (-9223372036854775808) ≤ y ∧ y ≤ 9223372036854775807) (q : ∀ (r : Int) (M' : jm), CI M' → FR W_c_Machine_isItemOfNumbers T M' → 0 ≤ r ∧ r ≤ 1 → (r = 0 ∨ ((0 ≤ x ∧ x ≤ 7) ∧ 0 ≤ y ∧ y ≤ 39)) → Q (some (.int (Int32.ofInt r))) M') : jc A 3 168 [.ref (421), .long (Int64.ofInt (x)), .long (Int64.ofInt (y))] M Q := by
  refine jc_of (m := xm_168) rfl (Nat.le_of_ble_eq_true rfl) rfl ?_
  refine jr.aload_n rfl rfl ?_
  refine jr.lload_n rfl rfl ?_
  refine jr_v rfl rfl (Or.inl rfl) rfl rfl (nlt rfl) rfl ⟨rfl, Nat.le_of_ble_eq_true rfl, Nat.le_of_ble_eq_true rfl⟩ rfl (jc.deep (c_Machine_isRow hC_M (FR.rfl _ M) (by omega) (fun r1 M1 hC_M1 hf_M1 z1 w1_0 => ?_)) (Nat.le_of_ble_eq_true rfl))
  have ht_M1 : FR W_c_Machine_isItemOfNumbers T M1 := FR.t ht_M hf_M1 (kw_sub rfl)
  refine jr.if_ne rfl rfl (by first | (refine rgb (by assumption) ?_; exact rfl) | omega) (fun h5 => ?_) (fun h5 => ?_)
  · have sx5 : (1 : Int) ≤ r1 := by omega
    clear h5
    refine jr.aload_n rfl rfl ?_
    refine jr.getf (i := 0) (v := .ref 422) rfl rfl (nlt rfl) rfl (nlt rfl) rfl rfl rfl rfl ?_
    refine jr.lload_n rfl rfl ?_
    refine jr.l2i rfl ?_
    have k2 := kxe_25 (a := 422) rfl (i := x) (by omega) (by omega)
    refine jr.aald (c := (xe 422 x)) rfl (by decide) rfl (by decide) (by decide) rfl (by decide) (by omega) (by omega) k2.1 ?_
    refine jr_v rfl rfl (Or.inl rfl) rfl rfl (Nat.lt_trans (kx_52 k2.2).1 (by decide)) (kx_52 k2.2).2 ⟨rfl, Nat.le_of_ble_eq_true rfl, Nat.le_of_ble_eq_true rfl⟩ rfl (jc.deep (c_Row_isOfHeaders hC_M1 k2.2 (fun r3 z3  => ?_)) (Nat.le_of_ble_eq_true rfl))
    refine jr.if_eq rfl rfl (by first | (refine rgb (by assumption) ?_; exact rfl) | omega) (fun h20 => ?_) (fun h20 => ?_)
    · refine jr.aload_n rfl rfl ?_
      refine jr.getf (i := 0) (v := .ref 422) rfl rfl (nlt rfl) rfl (nlt rfl) rfl rfl rfl rfl ?_
      refine jr.lload_n rfl rfl ?_
      refine jr.l2i rfl ?_
      have k4 := kxe_25 (a := 422) rfl (i := x) (by omega) (by omega)
      refine jr.aald (c := (xe 422 x)) rfl (by decide) rfl (by decide) (by decide) rfl (by decide) (by omega) (by omega) k4.1 ?_
      refine jr.lload_n rfl rfl ?_
      refine jr_v rfl rfl (Or.inl rfl) rfl rfl (Nat.lt_trans (kx_52 k4.2).1 (by decide)) (kx_52 k4.2).2 ⟨rfl, Nat.le_of_ble_eq_true rfl, Nat.le_of_ble_eq_true rfl⟩ rfl (jc.deep (c_Row_hasItem hC_M1 k4.2 (by omega) (fun r5 z5 w5_0 => ?_)) (Nat.le_of_ble_eq_true rfl))
      refine jr.if_ne rfl rfl (by first | (refine rgb (by assumption) ?_; exact rfl) | omega) (fun h41 => ?_) (fun h41 => ?_)
      · have sx41 : (1 : Int) ≤ r5 := by omega
        clear h41
        refine jr.iconst rfl ?_
        exact jr.ireturn rfl rfl rfl (q _ _ hC_M1 ht_M1 (by first | exact rgq rfl | omega) (by omega))
      · refine jr.aload_n rfl rfl ?_
        refine jr.iconst rfl ?_
        refine jr_v rfl rfl (Or.inl rfl) rfl rfl (nlt rfl) rfl ⟨rfl, Nat.le_of_ble_eq_true rfl, Nat.le_of_ble_eq_true rfl⟩ rfl (jc.deep (c_Machine_fail hC_M1 (FR.rfl _ M1) (by omega) (fun M6 hC_M6 hf_M6  => ?_)) (Nat.le_of_ble_eq_true rfl))
        have ht_M6 : FR W_c_Machine_isItemOfNumbers T M6 := FR.t ht_M1 hf_M6 (kw_sub rfl)
        refine jr.iconst rfl ?_
        exact jr.ireturn rfl rfl rfl (q _ _ hC_M6 ht_M6 (by first | exact rgq rfl | omega) (by omega))
    · have sx20 : (1 : Int) ≤ r3 := by omega
      clear h20
      refine jr.aload_n rfl rfl ?_
      refine jr.iconst rfl ?_
      refine jr_v rfl rfl (Or.inl rfl) rfl rfl (nlt rfl) rfl ⟨rfl, Nat.le_of_ble_eq_true rfl, Nat.le_of_ble_eq_true rfl⟩ rfl (jc.deep (c_Machine_fail hC_M1 (FR.rfl _ M1) (by omega) (fun M7 hC_M7 hf_M7  => ?_)) (Nat.le_of_ble_eq_true rfl))
      have ht_M7 : FR W_c_Machine_isItemOfNumbers T M7 := FR.t ht_M1 hf_M7 (kw_sub rfl)
      refine jr.iconst rfl ?_
      exact jr.ireturn rfl rfl rfl (q _ _ hC_M7 ht_M7 (by first | exact rgq rfl | omega) (by omega))
  · refine jr.iconst rfl ?_
    exact jr.ireturn rfl rfl rfl (q _ _ hC_M1 ht_M1 (by first | exact rgq rfl | omega) (by omega))
theorem c_Memory_knows_L3 {A : Nat → Option (Nat × (Nat → Int32))} {Q : Option Value → jm → Prop} {M : jm} (hC_M : CI M) {t : Nat} (k_t : kd t = 27) {x : Int} {y : Int} (q : ∀ (r : Int), 0 ≤ r ∧ r ≤ 1 → Q (some (.int (Int32.ofInt r))) M) : ∀ (nM : Nat) (i : Int), 0 ≤ x ∧ x ≤ 3 → (-9223372036854775808) ≤ y ∧ y ≤ 9223372036854775807 → 0 ≤ i ∧ i ≤ 16 → 16 - i ≤ nM → jr A 0 xm_187 3 [(1, .int (Int32.ofInt (x))), (2, .long (Int64.ofInt (y))), (4, .int (Int32.ofInt (i))), (0, .ref (t))] [] M Q := by
  intro nM
  induction nM using Nat.strongRecOn with
  | ind nM ih =>
    intro i h_x h_y h_i hm
    refine jr.iload rfl rfl ?_
    refine jr.aload_n rfl rfl ?_
    have k1 := kf_27_3 k_t
    refine jr.getf (i := 3) (v := .ref (t + 4)) rfl rfl (Nat.lt_trans (kx_27 k_t).1 (by decide)) (kx_27 k_t).2 (by decide) rfl rfl rfl (jval_ref rfl k1.1) ?_
    refine jr.iload_n rfl rfl ?_
    obtain ⟨v2, e2⟩ : ∃ z_, M ((t + 4)) x = z_ := ⟨_, rfl⟩
    have b2 : 0 ≤ v2 ∧ v2 ≤ 16 := by rw [← e2]; exact (CI.r hC_M k1.2 (by decide) x)
    refine jr.iald (i := x) (x := v2) rfl (Nat.lt_trans (kx_32 k1.2).1 (by decide)) (kx_32 k1.2).2 (by decide) (by omega) (by omega) e2 ?_
    refine jr.icmp_ge rfl rfl (by first | (refine rgb (by assumption) ?_; exact rfl) | omega) (by first | (refine rgb (by assumption) ?_; exact rfl) | omega) (fun h11 => ?_) (fun h11 => ?_)
    · refine jr.iconst rfl ?_
      exact jr.ireturn rfl rfl rfl (q _ (by first | exact rgq rfl | omega) )
    · refine jr.aload_n rfl rfl ?_
      have k3 := kf_27_2 k_t
      refine jr.getf (i := 2) (v := .ref (t + 3)) rfl rfl (Nat.lt_trans (kx_27 k_t).1 (by decide)) (kx_27 k_t).2 (by decide) rfl rfl rfl (jval_ref rfl k3.1) ?_
      refine jr.iload_n rfl rfl ?_
      refine jr.bipush rfl (jbp _ (nlt rfl)) ?_
      refine jr.imul rfl ?_
      refine jr.iload rfl rfl ?_
      refine jr.iadd rfl ?_
      obtain ⟨v4, e4⟩ : ∃ z_, M ((t + 3)) ((x * 16) + i) = z_ := ⟨_, rfl⟩
      have b4 : (-9223372036854775808) ≤ v4 ∧ v4 ≤ 9223372036854775807 := by rw [← e4]; exact (CI.r hC_M k3.2 (by decide) ((x * 16) + i))
      refine jr.lald (i := ((x * 16) + i)) (x := v4) rfl (Nat.lt_trans (kx_31 k3.2).1 (by decide)) (kx_31 k3.2).2 (by decide) (by omega) (by omega) e4 ?_
      refine jr.lload_n rfl rfl ?_
      refine jr.lcmp_ne rfl rfl rfl (by omega) (by omega) (fun h27 => ?_) (fun h27 => ?_)
      · refine jr.iinc (ls' := [_, _, _, _]) rfl rfl (nlt rfl) rfl ?_
        refine jr.goto rfl rfl ?_
        refine jr.pick (ls := [_, _, _, _]) [1, 2, 0, 3] rfl rfl ?_
        exact ih (nM - 1) (by omega) (i + 1) (by omega) (by omega) (by omega)  (by omega)
      · refine jr.iconst rfl ?_
        exact jr.ireturn rfl rfl rfl (q _ (by first | exact rgq rfl | omega) )
theorem c_Memory_knows {A : Nat → Option (Nat × (Nat → Int32))} {Q : Option Value → jm → Prop} {M : jm} (hC_M : CI M) {t : Nat} (k_t : kd t = 27) {x : Int} (h_x : 0 ≤ x ∧ x ≤ 3) {y : Int} (h_y : (-9223372036854775808) ≤ y ∧ y ≤ 9223372036854775807) (q : ∀ (r : Int), 0 ≤ r ∧ r ≤ 1 → Q (some (.int (Int32.ofInt r))) M) : jc A 1 187 [.ref (t), .int (Int32.ofInt (x)), .long (Int64.ofInt (y))] M Q := by
  refine jc_of (m := xm_187) rfl (Nat.le_of_ble_eq_true rfl) rfl ?_
  refine jr.iconst rfl ?_
  refine jr.istore (ls' := [_, _, _, _]) rfl (nlt rfl) rfl ?_
  refine jr.pick (ls := [_, _, _, _]) [2, 3, 0, 1] rfl rfl ?_
  exact c_Memory_knows_L3 hC_M k_t q 16 0 (by omega) (by omega) (by omega)  (by omega)
theorem c_Headers_innerOf_L4 {A : Nat → Option (Nat × (Nat → Int32))} {Q : Option Value → jm → Prop} {M : jm} (hC_M : CI M) {t : Nat} (k_t : kd t = 18) (q : ∀ (r : Int), (-1) ≤ r ∧ r ≤ 11 → (r = (-1) ∨ r < M t 3) → Q (some (.int (Int32.ofInt r))) M) : ∀ (nM : Nat) (i : Int), 0 ≤ i ∧ i ≤ 12 → 12 - i ≤ nM → jr A 0 xm_114 4 [(2, .int (Int32.ofInt (i))), (0, .ref (t))] [] M Q := by
  intro nM
  induction nM using Nat.strongRecOn with
  | ind nM ih =>
    intro i h_i hm
    refine jr.iload_n rfl rfl ?_
    refine jr.aload_n rfl rfl ?_
    obtain ⟨v1, e1⟩ : ∃ z_, M t 3 = z_ := ⟨_, rfl⟩
    have b1 : 0 ≤ v1 ∧ v1 ≤ 12 := by rw [← e1]; exact (CI.r hC_M k_t (by decide) 3)
    refine jr.getf (i := 3) (x := v1) (v := .int (Int32.ofInt (v1))) rfl rfl (Nat.lt_trans (kx_18 k_t).1 (by decide)) (kx_18 k_t).2 (by decide) rfl rfl e1 rfl ?_
    refine jr.icmp_ge rfl rfl (by first | (refine rgb (by assumption) ?_; exact rfl) | omega) (by first | (refine rgb (by assumption) ?_; exact rfl) | omega) (fun h9 => ?_) (fun h9 => ?_)
    · refine jr.iload_n rfl rfl ?_
      refine jr.aload_n rfl rfl ?_
      refine jr.getf (i := 3) (x := v1) (v := .int (Int32.ofInt (v1))) rfl rfl (Nat.lt_trans (kx_18 k_t).1 (by decide)) (kx_18 k_t).2 (by decide) rfl rfl e1 rfl ?_
      refine jr.icmp_ge rfl rfl (by first | (refine rgb (by assumption) ?_; exact rfl) | omega) (by first | (refine rgb (by assumption) ?_; exact rfl) | omega) (fun h43 => ?_) (fun h43 => ?_)
      · refine jr.iconst rfl ?_
        exact jr.ireturn rfl rfl rfl (q _ (by first | exact rgq rfl | omega) (by omega))
      · refine jr.iload_n rfl rfl ?_
        refine jr.goto rfl rfl ?_
        exact jr.ireturn rfl rfl rfl (q _ (by omega) (by omega))
    · refine jr.aload_n rfl rfl ?_
      have k2 := kf_18_0 k_t
      refine jr.getf (i := 0) (v := .ref (t + 1)) rfl rfl (Nat.lt_trans (kx_18 k_t).1 (by decide)) (kx_18 k_t).2 (by decide) rfl rfl rfl (jval_ref rfl k2.1) ?_
      refine jr.iload_n rfl rfl ?_
      obtain ⟨v3, e3⟩ : ∃ z_, M ((t + 1)) i = z_ := ⟨_, rfl⟩
      have b3 : 0 ≤ v3 ∧ v3 ≤ 11 := by rw [← e3]; exact (CI.r hC_M k2.2 (by decide) i)
      refine jr.iald (i := i) (x := v3) rfl (Nat.lt_trans (kx_19 k2.2).1 (by decide)) (kx_19 k2.2).2 (by decide) (by omega) (by omega) e3 ?_
      refine jr.iconst rfl ?_
      refine jr.icmp_eq rfl rfl (by first | (refine rgb (by assumption) ?_; exact rfl) | omega) (rgl rfl) (fun h19 => ?_) (fun h19 => ?_)
      · refine jr.iinc (ls' := [_, _]) rfl rfl (nlt rfl) rfl ?_
        refine jr.goto rfl rfl ?_
        refine jr.pick (ls := [_, _]) [0, 1] rfl rfl ?_
        exact ih (nM - 1) (by omega) (i + 1) (by omega)  (by omega)
      · refine jr.aload_n rfl rfl ?_
        have k4 := kf_18_0 k_t
        refine jr.getf (i := 0) (v := .ref (t + 1)) rfl rfl (Nat.lt_trans (kx_18 k_t).1 (by decide)) (kx_18 k_t).2 (by decide) rfl rfl rfl (jval_ref rfl k4.1) ?_
        refine jr.iload_n rfl rfl ?_
        refine jr.iald (i := i) (x := v3) rfl (Nat.lt_trans (kx_19 k4.2).1 (by decide)) (kx_19 k4.2).2 (by decide) (by omega) (by omega) e3 ?_
        refine jr.iconst rfl ?_
        refine jr.icmp_ne rfl rfl (by first | (refine rgb (by assumption) ?_; exact rfl) | omega) (rgl rfl) (fun h29 => ?_) (fun h29 => ?_)
        · refine jr.iload_n rfl rfl ?_
          refine jr.aload_n rfl rfl ?_
          refine jr.getf (i := 3) (x := v1) (v := .int (Int32.ofInt (v1))) rfl rfl (Nat.lt_trans (kx_18 k_t).1 (by decide)) (kx_18 k_t).2 (by decide) rfl rfl e1 rfl ?_
          refine jr.icmp_ge rfl rfl (by first | (refine rgb (by assumption) ?_; exact rfl) | omega) (by first | (refine rgb (by assumption) ?_; exact rfl) | omega) (fun h43 => ?_) (fun h43 => ?_)
          · refine jr.iconst rfl ?_
            exact jr.ireturn rfl rfl rfl (q _ (by first | exact rgq rfl | omega) (by omega))
          · refine jr.iload_n rfl rfl ?_
            refine jr.goto rfl rfl ?_
            exact jr.ireturn rfl rfl rfl (q _ (by omega) (by omega))
        · refine jr.iinc (ls' := [_, _]) rfl rfl (nlt rfl) rfl ?_
          refine jr.goto rfl rfl ?_
          refine jr.pick (ls := [_, _]) [0, 1] rfl rfl ?_
          exact ih (nM - 1) (by omega) (i + 1) (by omega)  (by omega)
theorem c_Headers_innerOf {A : Nat → Option (Nat × (Nat → Int32))} {Q : Option Value → jm → Prop} {M : jm} (hC_M : CI M) {t : Nat} (k_t : kd t = 18) {x : Int} (h_x : (-1) ≤ x ∧ x ≤ 11) (q : ∀ (r : Int), (-1) ≤ r ∧ r ≤ 11 → (r = (-1) ∨ r < M t 3) → Q (some (.int (Int32.ofInt r))) M) : jc A 1 114 [.ref (t), .int (Int32.ofInt (x))] M Q := by
  refine jc_of (m := xm_114) rfl (Nat.le_of_ble_eq_true rfl) rfl ?_
  refine jr.iload_n rfl rfl ?_
  refine jr.iconst rfl ?_
  refine jr.iadd rfl ?_
  refine jr.istore_n (ls' := [_, _, _]) rfl (nlt rfl) rfl ?_
  refine jr.pick (ls := [_, _]) [0, 1] rfl rfl ?_
  exact c_Headers_innerOf_L4 hC_M k_t q 12 (x + 1) (by omega)  (by omega)
theorem c_Headers_firstOf_L2 {A : Nat → Option (Nat × (Nat → Int32))} {Q : Option Value → jm → Prop} {M : jm} (hC_M : CI M) {t : Nat} (k_t : kd t = 18) {x : Int} (q : ∀ (r : Int), (-1) ≤ r ∧ r ≤ 11 → (r = (-1) ∨ ((0 ≤ r ∧ r < M t 3) ∧ (x ≠ 12 ∨ (2 ≤ M (t + 1) r ∧ M (t + 1) r ≤ 3)))) → Q (some (.int (Int32.ofInt r))) M) : ∀ (nM : Nat) (i : Int), (-2147483648) ≤ x ∧ x ≤ 2147483647 → 0 ≤ i ∧ i ≤ 12 → 12 - i ≤ nM → jr A 1 xm_111 2 [(1, .int (Int32.ofInt (x))), (2, .int (Int32.ofInt (i))), (0, .ref (t))] [] M Q := by
  intro nM
  induction nM using Nat.strongRecOn with
  | ind nM ih =>
    intro i h_x h_i hm
    refine jr.iload_n rfl rfl ?_
    refine jr.aload_n rfl rfl ?_
    obtain ⟨v1, e1⟩ : ∃ z_, M t 3 = z_ := ⟨_, rfl⟩
    have b1 : 0 ≤ v1 ∧ v1 ≤ 12 := by rw [← e1]; exact (CI.r hC_M k_t (by decide) 3)
    refine jr.getf (i := 3) (x := v1) (v := .int (Int32.ofInt (v1))) rfl rfl (Nat.lt_trans (kx_18 k_t).1 (by decide)) (kx_18 k_t).2 (by decide) rfl rfl e1 rfl ?_
    refine jr.icmp_ge rfl rfl (by first | (refine rgb (by assumption) ?_; exact rfl) | omega) (by first | (refine rgb (by assumption) ?_; exact rfl) | omega) (fun h7 => ?_) (fun h7 => ?_)
    · refine jr.iconst rfl ?_
      exact jr.ireturn rfl rfl rfl (q _ (by first | exact rgq rfl | omega) (by omega))
    · refine jr.aload_n rfl rfl ?_
      have k2 := kf_18_0 k_t
      refine jr.getf (i := 0) (v := .ref (t + 1)) rfl rfl (Nat.lt_trans (kx_18 k_t).1 (by decide)) (kx_18 k_t).2 (by decide) rfl rfl rfl (jval_ref rfl k2.1) ?_
      refine jr.iload_n rfl rfl ?_
      obtain ⟨v3, e3⟩ : ∃ z_, M ((t + 1)) i = z_ := ⟨_, rfl⟩
      have b3 : 0 ≤ v3 ∧ v3 ≤ 11 := by rw [← e3]; exact (CI.r hC_M k2.2 (by decide) i)
      refine jr.iald (i := i) (x := v3) rfl (Nat.lt_trans (kx_19 k2.2).1 (by decide)) (kx_19 k2.2).2 (by decide) (by omega) (by omega) e3 ?_
      refine jr.iload_n rfl rfl ?_
      refine jr.icmp_eq rfl rfl (by first | (refine rgb (by assumption) ?_; exact rfl) | omega) (by first | (refine rgb (by assumption) ?_; exact rfl) | omega) (fun h17 => ?_) (fun h17 => ?_)
      · refine jr.iload_n rfl rfl ?_
        exact jr.ireturn rfl rfl rfl (q _ (by omega) (by omega))
      · refine jr.iload_n rfl rfl ?_
        refine jr.bipush rfl (jbp _ (nlt rfl)) ?_
        refine jr.icmp_ne rfl rfl (by first | (refine rgb (by assumption) ?_; exact rfl) | omega) (rgl rfl) (fun h23 => ?_) (fun h23 => ?_)
        · refine jr.iload_n rfl rfl ?_
          refine jr.bipush rfl (jbp _ (nlt rfl)) ?_
          refine jr.icmp_ne rfl rfl (by first | (refine rgb (by assumption) ?_; exact rfl) | omega) (rgl rfl) (fun h41 => ?_) (fun h41 => ?_)
          · refine jr.iinc (ls' := [_, _, _]) rfl rfl (nlt rfl) rfl ?_
            refine jr.goto rfl rfl ?_
            refine jr.pick (ls := [_, _, _]) [1, 0, 2] rfl rfl ?_
            exact ih (nM - 1) (by omega) (i + 1) (by omega) (by omega)  (by omega)
          · refine jr.aload_n rfl rfl ?_
            have k4 := kf_18_0 k_t
            refine jr.getf (i := 0) (v := .ref (t + 1)) rfl rfl (Nat.lt_trans (kx_18 k_t).1 (by decide)) (kx_18 k_t).2 (by decide) rfl rfl rfl (jval_ref rfl k4.1) ?_
            refine jr.iload_n rfl rfl ?_
            refine jr.iald (i := i) (x := v3) rfl (Nat.lt_trans (kx_19 k4.2).1 (by decide)) (kx_19 k4.2).2 (by decide) (by omega) (by omega) e3 ?_
            refine jr_s rfl rfl (Or.inr rfl) ⟨Nat.le_of_ble_eq_true rfl, Nat.le_of_ble_eq_true rfl⟩ rfl rfl (jc.deep (c_PacketWall_isCarriedKind hC_M (by omega) (fun r5 z5 w5_0 => ?_)) (Nat.le_of_ble_eq_true rfl))
            refine jr.if_eq rfl rfl (by first | (refine rgb (by assumption) ?_; exact rfl) | omega) (fun h53 => ?_) (fun h53 => ?_)
            · refine jr.iinc (ls' := [_, _, _]) rfl rfl (nlt rfl) rfl ?_
              refine jr.goto rfl rfl ?_
              refine jr.pick (ls := [_, _, _]) [1, 0, 2] rfl rfl ?_
              exact ih (nM - 1) (by omega) (i + 1) (by omega) (by omega)  (by omega)
            · have sx53 : (1 : Int) ≤ r5 := by omega
              clear h53
              refine jr.iload_n rfl rfl ?_
              exact jr.ireturn rfl rfl rfl (q _ (by omega) (by omega))
        · refine jr.aload_n rfl rfl ?_
          have k6 := kf_18_0 k_t
          refine jr.getf (i := 0) (v := .ref (t + 1)) rfl rfl (Nat.lt_trans (kx_18 k_t).1 (by decide)) (kx_18 k_t).2 (by decide) rfl rfl rfl (jval_ref rfl k6.1) ?_
          refine jr.iload_n rfl rfl ?_
          refine jr.iald (i := i) (x := v3) rfl (Nat.lt_trans (kx_19 k6.2).1 (by decide)) (kx_19 k6.2).2 (by decide) (by omega) (by omega) e3 ?_
          refine jr_s rfl rfl (Or.inr rfl) ⟨Nat.le_of_ble_eq_true rfl, Nat.le_of_ble_eq_true rfl⟩ rfl rfl (jc.deep (c_PacketWall_isNetKind hC_M (by omega) (fun r7 z7 w7_0 => ?_)) (Nat.le_of_ble_eq_true rfl))
          refine jr.if_ne rfl rfl (by first | (refine rgb (by assumption) ?_; exact rfl) | omega) (fun h35 => ?_) (fun h35 => ?_)
          · have sx35 : (1 : Int) ≤ r7 := by omega
            clear h35
            refine jr.iload_n rfl rfl ?_
            exact jr.ireturn rfl rfl rfl (q _ (by omega) (by omega))
          · refine jr.iload_n rfl rfl ?_
            refine jr.bipush rfl (jbp _ (nlt rfl)) ?_
            refine jr.icmp_ne rfl rfl (by first | (refine rgb (by assumption) ?_; exact rfl) | omega) (rgl rfl) (fun h41 => ?_) (fun h41 => ?_)
            · refine jr.iinc (ls' := [_, _, _]) rfl rfl (nlt rfl) rfl ?_
              refine jr.goto rfl rfl ?_
              refine jr.pick (ls := [_, _, _]) [1, 0, 2] rfl rfl ?_
              exact ih (nM - 1) (by omega) (i + 1) (by omega) (by omega)  (by omega)
            · exact absurd (by omega) h41
theorem c_Headers_firstOf {A : Nat → Option (Nat × (Nat → Int32))} {Q : Option Value → jm → Prop} {M : jm} (hC_M : CI M) {t : Nat} (k_t : kd t = 18) {x : Int} (h_x : (-2147483648) ≤ x ∧ x ≤ 2147483647) (q : ∀ (r : Int), (-1) ≤ r ∧ r ≤ 11 → (r = (-1) ∨ ((0 ≤ r ∧ r < M t 3) ∧ (x ≠ 12 ∨ (2 ≤ M (t + 1) r ∧ M (t + 1) r ≤ 3)))) → Q (some (.int (Int32.ofInt r))) M) : jc A 2 111 [.ref (t), .int (Int32.ofInt (x))] M Q := by
  refine jc_of (m := xm_111) rfl (Nat.le_of_ble_eq_true rfl) rfl ?_
  refine jr.iconst rfl ?_
  refine jr.istore_n (ls' := [_, _, _]) rfl (nlt rfl) rfl ?_
  refine jr.pick (ls := [_, _, _]) [2, 0, 1] rfl rfl ?_
  exact c_Headers_firstOf_L2 hC_M k_t q 12 0 (by omega) (by omega)  (by omega)
theorem c_PacketWall_countPackets_L4 {A : Nat → Option (Nat × (Nat → Int32))} {Q : Option Value → jm → Prop} {M : jm} (hC_M : CI M) (q : ∀ (r : Int), 0 ≤ r ∧ r ≤ 24 → Q (some (.int (Int32.ofInt r))) M) : ∀ (nM : Nat) (c : Int) (i : Int), 0 ≤ c ∧ c ≤ 24 → 0 ≤ i ∧ i ≤ 24 → (c ≤ i) → 24 - i ≤ nM → jr A 1 xm_43 4 [(1, .int (Int32.ofInt (c))), (2, .int (Int32.ofInt (i))), (0, .ref (0))] [] M Q := by
  intro nM
  induction nM using Nat.strongRecOn with
  | ind nM ih =>
    intro c i h_c h_i hy0 hm
    refine jr.iload_n rfl rfl ?_
    refine jr.bipush rfl (jbp _ (nlt rfl)) ?_
    refine jr.icmp_ge rfl rfl (by first | (refine rgb (by assumption) ?_; exact rfl) | omega) (rgl rfl) (fun h7 => ?_) (fun h7 => ?_)
    · refine jr.iload_n rfl rfl ?_
      exact jr.ireturn rfl rfl rfl (q _ (by omega) )
    · refine jr.iload_n rfl rfl ?_
      refine jr.aload_n rfl rfl ?_
      refine jr.getf (i := 2) (v := .ref 2) rfl rfl (nlt rfl) rfl (nlt rfl) rfl rfl rfl rfl ?_
      refine jr.iload_n rfl rfl ?_
      have k1 := kxe_42 (a := 2) rfl (i := i) (by omega) (by omega)
      refine jr.aald (c := (xe 2 i)) rfl (by decide) rfl (by decide) (by decide) rfl (by decide) (by omega) (by omega) k1.1 ?_
      refine jr_v rfl rfl (Or.inl rfl) rfl rfl (Nat.lt_trans (kx_33 k1.2).1 (by decide)) (kx_33 k1.2).2 ⟨rfl, Nat.le_of_ble_eq_true rfl, Nat.le_of_ble_eq_true rfl⟩ rfl (jc.deep (c_Packet_isThere hC_M k1.2 (fun r2 z2 w2_0 => ?_)) (Nat.le_of_ble_eq_true rfl))
      obtain ⟨v3, e3⟩ : ∃ z_, M ((xe 2 i)) 1 = z_ := ⟨_, rfl⟩
      have b3 : (-1) ≤ v3 ∧ v3 ≤ 400 := by rw [← e3]; exact (CI.r hC_M k1.2 (by decide) 1)
      refine jr.if_eq rfl rfl (by first | (refine rgb (by assumption) ?_; exact rfl) | omega) (fun h20 => ?_) (fun h20 => ?_)
      · refine jr.iconst rfl ?_
        refine jr.iadd rfl ?_
        refine jr.istore_n (ls' := [_, _, _]) rfl (nlt rfl) rfl ?_
        refine jr.iinc (ls' := [_, _, _]) rfl rfl (nlt rfl) rfl ?_
        refine jr.goto rfl rfl ?_
        refine jr.pick (ls := [_, _, _]) [1, 0, 2] rfl rfl ?_
        exact ih (nM - 1) (by omega) (c + 0) (i + 1) (by omega) (by omega) (by omega) (by omega)
      · have sx20 : (1 : Int) ≤ r2 := by omega
        clear h20
        refine jr.iconst rfl ?_
        refine jr.goto rfl rfl ?_
        refine jr.iadd rfl ?_
        refine jr.istore_n (ls' := [_, _, _]) rfl (nlt rfl) rfl ?_
        refine jr.iinc (ls' := [_, _, _]) rfl rfl (nlt rfl) rfl ?_
        refine jr.goto rfl rfl ?_
        refine jr.pick (ls := [_, _, _]) [1, 0, 2] rfl rfl ?_
        exact ih (nM - 1) (by omega) (c + 1) (i + 1) (by omega) (by omega) (by omega) (by omega)
theorem c_PacketWall_countPackets {A : Nat → Option (Nat × (Nat → Int32))} {Q : Option Value → jm → Prop} {M : jm} (hC_M : CI M) (q : ∀ (r : Int), 0 ≤ r ∧ r ≤ 24 → Q (some (.int (Int32.ofInt r))) M) : jc A 2 43 [.ref (0)] M Q := by
  refine jc_of (m := xm_43) rfl (Nat.le_of_ble_eq_true rfl) rfl ?_
  refine jr.iconst rfl ?_
  refine jr.istore_n (ls' := [_, _]) rfl (nlt rfl) rfl ?_
  refine jr.iconst rfl ?_
  refine jr.istore_n (ls' := [_, _, _]) rfl (nlt rfl) rfl ?_
  refine jr.pick (ls := [_, _, _]) [1, 0, 2] rfl rfl ?_
  exact c_PacketWall_countPackets_L4 hC_M  q 24 0 0 (by omega) (by omega) (by omega) (by omega)
theorem c_Flow_sideOf {A : Nat → Option (Nat × (Nat → Int32))} {Q : Option Value → jm → Prop} {M : jm} (hC_M : CI M) {t : Nat} (k_t : kd t = 1) {x : Nat} (k_x : kd x = 1) (q : ∀ (r : Int), (-1) ≤ r ∧ r ≤ 1 → Q (some (.int (Int32.ofInt r))) M) : jc A 2 60 [.ref (t), .ref (x)] M Q := by
  refine jc_of (m := xm_60) rfl (Nat.le_of_ble_eq_true rfl) rfl ?_
  refine jr.aload_n rfl rfl ?_
  obtain ⟨v1, e1⟩ : ∃ z_, M t 0 = z_ := ⟨_, rfl⟩
  have b1 : 0 ≤ v1 ∧ v1 ≤ 1 := by rw [← e1]; exact (CI.r hC_M k_t (by decide) 0)
  refine jr.getf (i := 0) (x := v1) (v := .int (Int32.ofInt (v1))) rfl rfl (Nat.lt_trans (kx_1 k_t).1 (by decide)) (kx_1 k_t).2 (by decide) rfl rfl e1 rfl ?_
  refine jr.if_eq rfl rfl (by first | (refine rgb (by assumption) ?_; exact rfl) | omega) (fun h4 => ?_) (fun h4 => ?_)
  · refine jr.iconst rfl ?_
    exact jr.ireturn rfl rfl rfl (q _ (by first | exact rgq rfl | omega) )
  · have sx4 : (1 : Int) ≤ v1 := by omega
    clear h4
    refine jr.aload_n rfl rfl ?_
    obtain ⟨v2, e2⟩ : ∃ z_, M t 1 = z_ := ⟨_, rfl⟩
    have b2 : 0 ≤ v2 ∧ v2 ≤ 1 := by rw [← e2]; exact (CI.r hC_M k_t (by decide) 1)
    refine jr.getf (i := 1) (x := v2) (v := .int (Int32.ofInt (v2))) rfl rfl (Nat.lt_trans (kx_1 k_t).1 (by decide)) (kx_1 k_t).2 (by decide) rfl rfl e2 rfl ?_
    refine jr.aload_n rfl rfl ?_
    obtain ⟨v3, e3⟩ : ∃ z_, M x 1 = z_ := ⟨_, rfl⟩
    have b3 : 0 ≤ v3 ∧ v3 ≤ 1 := by rw [← e3]; exact (CI.r hC_M k_x (by decide) 1)
    refine jr.getf (i := 1) (x := v3) (v := .int (Int32.ofInt (v3))) rfl rfl (Nat.lt_trans (kx_1 k_x).1 (by decide)) (kx_1 k_x).2 (by decide) rfl rfl e3 rfl ?_
    refine jr.icmp_ne rfl rfl (by first | (refine rgb (by assumption) ?_; exact rfl) | omega) (by first | (refine rgb (by assumption) ?_; exact rfl) | omega) (fun h15 => ?_) (fun h15 => ?_)
    · refine jr.iconst rfl ?_
      exact jr.ireturn rfl rfl rfl (q _ (by first | exact rgq rfl | omega) )
    · refine jr.aload_n rfl rfl ?_
      obtain ⟨v4, e4⟩ : ∃ z_, M t 2 = z_ := ⟨_, rfl⟩
      have b4 : (-2147483648) ≤ v4 ∧ v4 ≤ 2147483647 := by rw [← e4]; exact (CI.r hC_M k_t (by decide) 2)
      refine jr.getf (i := 2) (x := v4) (v := .int (Int32.ofInt (v4))) rfl rfl (Nat.lt_trans (kx_1 k_t).1 (by decide)) (kx_1 k_t).2 (by decide) rfl rfl e4 rfl ?_
      refine jr.aload_n rfl rfl ?_
      obtain ⟨v5, e5⟩ : ∃ z_, M x 2 = z_ := ⟨_, rfl⟩
      have b5 : (-2147483648) ≤ v5 ∧ v5 ≤ 2147483647 := by rw [← e5]; exact (CI.r hC_M k_x (by decide) 2)
      refine jr.getf (i := 2) (x := v5) (v := .int (Int32.ofInt (v5))) rfl rfl (Nat.lt_trans (kx_1 k_x).1 (by decide)) (kx_1 k_x).2 (by decide) rfl rfl e5 rfl ?_
      refine jr.icmp_eq rfl rfl (by first | (refine rgb (by assumption) ?_; exact rfl) | omega) (by first | (refine rgb (by assumption) ?_; exact rfl) | omega) (fun h26 => ?_) (fun h26 => ?_)
      · refine jr.aload_n rfl rfl ?_
        refine jr.iconst rfl ?_
        refine jr.aload_n rfl rfl ?_
        have k6 := kf_1_3 k_t
        refine jr.getf (i := 3) (v := .ref (t + 1)) rfl rfl (Nat.lt_trans (kx_1 k_t).1 (by decide)) (kx_1 k_t).2 (by decide) rfl rfl rfl (jval_ref rfl k6.1) ?_
        refine jr.iconst rfl ?_
        obtain ⟨v7, e7⟩ : ∃ z_, M ((t + 1)) 0 = z_ := ⟨_, rfl⟩
        have b7 : (-9223372036854775808) ≤ v7 ∧ v7 ≤ 9223372036854775807 := by rw [← e7]; exact (CI.r hC_M k6.2 (by decide) 0)
        refine jr.lald (i := 0) (x := v7) rfl (Nat.lt_trans (kx_2 k6.2).1 (by decide)) (kx_2 k6.2).2 (by decide) (by omega) (by omega) e7 ?_
        refine jr.aload_n rfl rfl ?_
        have k8 := kf_1_4 k_t
        refine jr.getf (i := 4) (v := .ref (t + 2)) rfl rfl (Nat.lt_trans (kx_1 k_t).1 (by decide)) (kx_1 k_t).2 (by decide) rfl rfl rfl (jval_ref rfl k8.1) ?_
        refine jr.iconst rfl ?_
        obtain ⟨v9, e9⟩ : ∃ z_, M ((t + 2)) 0 = z_ := ⟨_, rfl⟩
        have b9 : (-2147483648) ≤ v9 ∧ v9 ≤ 2147483647 := by rw [← e9]; exact (CI.r hC_M k8.2 (by decide) 0)
        refine jr.iald (i := 0) (x := v9) rfl (Nat.lt_trans (kx_7 k8.2).1 (by decide)) (kx_7 k8.2).2 (by decide) (by omega) (by omega) e9 ?_
        refine jr_s rfl rfl (Or.inl rfl) ⟨Nat.le_of_ble_eq_true rfl, Nat.le_of_ble_eq_true rfl⟩ rfl rfl (jc.deep (c_Flow_hasEnd hC_M k_x (by omega) (by omega) (by omega) (fun r10 z10  => ?_)) (Nat.le_of_ble_eq_true rfl))
        refine jr.if_eq rfl rfl (by first | (refine rgb (by assumption) ?_; exact rfl) | omega) (fun h48 => ?_) (fun h48 => ?_)
        · refine jr.aload_n rfl rfl ?_
          obtain ⟨v11, e11⟩ : ∃ z_, M t 13 = z_ := ⟨_, rfl⟩
          have b11 : (-2147483648) ≤ v11 ∧ v11 ≤ 2147483647 := by rw [← e11]; exact (CI.r hC_M k_t (by decide) 13)
          refine jr.getf (i := 13) (x := v11) (v := .int (Int32.ofInt (v11))) rfl rfl (Nat.lt_trans (kx_1 k_t).1 (by decide)) (kx_1 k_t).2 (by decide) rfl rfl e11 rfl ?_
          refine jr.iconst rfl ?_
          refine jr.icmp_ne rfl rfl (by first | (refine rgb (by assumption) ?_; exact rfl) | omega) (rgl rfl) (fun h78 => ?_) (fun h78 => ?_)
          · refine jr.aload_n rfl rfl ?_
            refine jr.iconst rfl ?_
            refine jr.aload_n rfl rfl ?_
            obtain ⟨v12, e12⟩ : ∃ z_, M t 14 = z_ := ⟨_, rfl⟩
            have b12 : (-9223372036854775808) ≤ v12 ∧ v12 ≤ 9223372036854775807 := by rw [← e12]; exact (CI.r hC_M k_t (by decide) 14)
            refine jr.getf (i := 14) (x := v12) (v := .long (Int64.ofInt (v12))) rfl rfl (Nat.lt_trans (kx_1 k_t).1 (by decide)) (kx_1 k_t).2 (by decide) rfl rfl e12 rfl ?_
            refine jr.aload_n rfl rfl ?_
            obtain ⟨v13, e13⟩ : ∃ z_, M t 15 = z_ := ⟨_, rfl⟩
            have b13 : (-2147483648) ≤ v13 ∧ v13 ≤ 2147483647 := by rw [← e13]; exact (CI.r hC_M k_t (by decide) 15)
            refine jr.getf (i := 15) (x := v13) (v := .int (Int32.ofInt (v13))) rfl rfl (Nat.lt_trans (kx_1 k_t).1 (by decide)) (kx_1 k_t).2 (by decide) rfl rfl e13 rfl ?_
            refine jr_s rfl rfl (Or.inl rfl) ⟨Nat.le_of_ble_eq_true rfl, Nat.le_of_ble_eq_true rfl⟩ rfl rfl (jc.deep (c_Flow_hasEnd hC_M k_x (by omega) (by omega) (by omega) (fun r14 z14  => ?_)) (Nat.le_of_ble_eq_true rfl))
            refine jr.istore_n (ls' := [_, _, _]) rfl (nlt rfl) rfl ?_
            refine jr.iload_n rfl rfl ?_
            refine jr.if_eq rfl rfl (by first | (refine rgb (by assumption) ?_; exact rfl) | omega) (fun h116 => ?_) (fun h116 => ?_)
            · refine jr.iconst rfl ?_
              exact jr.ireturn rfl rfl rfl (q _ (by first | exact rgq rfl | omega) )
            · have sx116 : (1 : Int) ≤ r14 := by omega
              clear h116
              refine jr.aload_n rfl rfl ?_
              refine jr.iconst rfl ?_
              refine jr.aload_n rfl rfl ?_
              have k15 := kf_1_3 k_t
              refine jr.getf (i := 3) (v := .ref (t + 1)) rfl rfl (Nat.lt_trans (kx_1 k_t).1 (by decide)) (kx_1 k_t).2 (by decide) rfl rfl rfl (jval_ref rfl k15.1) ?_
              refine jr.iconst rfl ?_
              obtain ⟨v16, e16⟩ : ∃ z_, M ((t + 1)) 1 = z_ := ⟨_, rfl⟩
              have b16 : (-9223372036854775808) ≤ v16 ∧ v16 ≤ 9223372036854775807 := by rw [← e16]; exact (CI.r hC_M k15.2 (by decide) 1)
              refine jr.lald (i := 1) (x := v16) rfl (Nat.lt_trans (kx_2 k15.2).1 (by decide)) (kx_2 k15.2).2 (by decide) (by omega) (by omega) e16 ?_
              refine jr.aload_n rfl rfl ?_
              have k17 := kf_1_4 k_t
              refine jr.getf (i := 4) (v := .ref (t + 2)) rfl rfl (Nat.lt_trans (kx_1 k_t).1 (by decide)) (kx_1 k_t).2 (by decide) rfl rfl rfl (jval_ref rfl k17.1) ?_
              refine jr.iconst rfl ?_
              obtain ⟨v18, e18⟩ : ∃ z_, M ((t + 2)) 1 = z_ := ⟨_, rfl⟩
              have b18 : (-2147483648) ≤ v18 ∧ v18 ≤ 2147483647 := by rw [← e18]; exact (CI.r hC_M k17.2 (by decide) 1)
              refine jr.iald (i := 1) (x := v18) rfl (Nat.lt_trans (kx_7 k17.2).1 (by decide)) (kx_7 k17.2).2 (by decide) (by omega) (by omega) e18 ?_
              refine jr_s rfl rfl (Or.inl rfl) ⟨Nat.le_of_ble_eq_true rfl, Nat.le_of_ble_eq_true rfl⟩ rfl rfl (jc.deep (c_Flow_hasEnd hC_M k_x (by omega) (by omega) (by omega) (fun r19 z19  => ?_)) (Nat.le_of_ble_eq_true rfl))
              refine jr.if_eq rfl rfl (by first | (refine rgb (by assumption) ?_; exact rfl) | omega) (fun h136 => ?_) (fun h136 => ?_)
              · refine jr.iconst rfl ?_
                exact jr.ireturn rfl rfl rfl (q _ (by first | exact rgq rfl | omega) )
              · have sx136 : (1 : Int) ≤ r19 := by omega
                clear h136
                refine jr.iconst rfl ?_
                refine jr.goto rfl rfl ?_
                exact jr.ireturn rfl rfl rfl (q _ (by first | exact rgq rfl | omega) )
          · refine jr.aload_n rfl rfl ?_
            refine jr.iconst rfl ?_
            refine jr.aload_n rfl rfl ?_
            have k20 := kf_1_3 k_t
            refine jr.getf (i := 3) (v := .ref (t + 1)) rfl rfl (Nat.lt_trans (kx_1 k_t).1 (by decide)) (kx_1 k_t).2 (by decide) rfl rfl rfl (jval_ref rfl k20.1) ?_
            refine jr.iconst rfl ?_
            refine jr.lald (i := 0) (x := v7) rfl (Nat.lt_trans (kx_2 k20.2).1 (by decide)) (kx_2 k20.2).2 (by decide) (by omega) (by omega) e7 ?_
            refine jr.aload_n rfl rfl ?_
            have k21 := kf_1_4 k_t
            refine jr.getf (i := 4) (v := .ref (t + 2)) rfl rfl (Nat.lt_trans (kx_1 k_t).1 (by decide)) (kx_1 k_t).2 (by decide) rfl rfl rfl (jval_ref rfl k21.1) ?_
            refine jr.iconst rfl ?_
            refine jr.iald (i := 0) (x := v9) rfl (Nat.lt_trans (kx_7 k21.2).1 (by decide)) (kx_7 k21.2).2 (by decide) (by omega) (by omega) e9 ?_
            refine jr_s rfl rfl (Or.inl rfl) ⟨Nat.le_of_ble_eq_true rfl, Nat.le_of_ble_eq_true rfl⟩ rfl rfl (jc.deep (c_Flow_hasEnd hC_M k_x (by omega) (by omega) (by omega) (fun r22 z22  => ?_)) (Nat.le_of_ble_eq_true rfl))
            refine jr.goto rfl rfl ?_
            refine jr.istore_n (ls' := [_, _, _]) rfl (nlt rfl) rfl ?_
            refine jr.iload_n rfl rfl ?_
            refine jr.if_eq rfl rfl (by first | (refine rgb (by assumption) ?_; exact rfl) | omega) (fun h116 => ?_) (fun h116 => ?_)
            · refine jr.iconst rfl ?_
              exact jr.ireturn rfl rfl rfl (q _ (by first | exact rgq rfl | omega) )
            · have sx116 : (1 : Int) ≤ r22 := by omega
              clear h116
              refine jr.aload_n rfl rfl ?_
              refine jr.iconst rfl ?_
              refine jr.aload_n rfl rfl ?_
              have k23 := kf_1_3 k_t
              refine jr.getf (i := 3) (v := .ref (t + 1)) rfl rfl (Nat.lt_trans (kx_1 k_t).1 (by decide)) (kx_1 k_t).2 (by decide) rfl rfl rfl (jval_ref rfl k23.1) ?_
              refine jr.iconst rfl ?_
              obtain ⟨v24, e24⟩ : ∃ z_, M ((t + 1)) 1 = z_ := ⟨_, rfl⟩
              have b24 : (-9223372036854775808) ≤ v24 ∧ v24 ≤ 9223372036854775807 := by rw [← e24]; exact (CI.r hC_M k23.2 (by decide) 1)
              refine jr.lald (i := 1) (x := v24) rfl (Nat.lt_trans (kx_2 k23.2).1 (by decide)) (kx_2 k23.2).2 (by decide) (by omega) (by omega) e24 ?_
              refine jr.aload_n rfl rfl ?_
              have k25 := kf_1_4 k_t
              refine jr.getf (i := 4) (v := .ref (t + 2)) rfl rfl (Nat.lt_trans (kx_1 k_t).1 (by decide)) (kx_1 k_t).2 (by decide) rfl rfl rfl (jval_ref rfl k25.1) ?_
              refine jr.iconst rfl ?_
              obtain ⟨v26, e26⟩ : ∃ z_, M ((t + 2)) 1 = z_ := ⟨_, rfl⟩
              have b26 : (-2147483648) ≤ v26 ∧ v26 ≤ 2147483647 := by rw [← e26]; exact (CI.r hC_M k25.2 (by decide) 1)
              refine jr.iald (i := 1) (x := v26) rfl (Nat.lt_trans (kx_7 k25.2).1 (by decide)) (kx_7 k25.2).2 (by decide) (by omega) (by omega) e26 ?_
              refine jr_s rfl rfl (Or.inl rfl) ⟨Nat.le_of_ble_eq_true rfl, Nat.le_of_ble_eq_true rfl⟩ rfl rfl (jc.deep (c_Flow_hasEnd hC_M k_x (by omega) (by omega) (by omega) (fun r27 z27  => ?_)) (Nat.le_of_ble_eq_true rfl))
              refine jr.if_eq rfl rfl (by first | (refine rgb (by assumption) ?_; exact rfl) | omega) (fun h136 => ?_) (fun h136 => ?_)
              · refine jr.iconst rfl ?_
                exact jr.ireturn rfl rfl rfl (q _ (by first | exact rgq rfl | omega) )
              · have sx136 : (1 : Int) ≤ r27 := by omega
                clear h136
                refine jr.iconst rfl ?_
                refine jr.goto rfl rfl ?_
                exact jr.ireturn rfl rfl rfl (q _ (by first | exact rgq rfl | omega) )
        · have sx48 : (1 : Int) ≤ r10 := by omega
          clear h48
          refine jr.aload_n rfl rfl ?_
          refine jr.iconst rfl ?_
          refine jr.aload_n rfl rfl ?_
          have k28 := kf_1_3 k_t
          refine jr.getf (i := 3) (v := .ref (t + 1)) rfl rfl (Nat.lt_trans (kx_1 k_t).1 (by decide)) (kx_1 k_t).2 (by decide) rfl rfl rfl (jval_ref rfl k28.1) ?_
          refine jr.iconst rfl ?_
          obtain ⟨v29, e29⟩ : ∃ z_, M ((t + 1)) 1 = z_ := ⟨_, rfl⟩
          have b29 : (-9223372036854775808) ≤ v29 ∧ v29 ≤ 9223372036854775807 := by rw [← e29]; exact (CI.r hC_M k28.2 (by decide) 1)
          refine jr.lald (i := 1) (x := v29) rfl (Nat.lt_trans (kx_2 k28.2).1 (by decide)) (kx_2 k28.2).2 (by decide) (by omega) (by omega) e29 ?_
          refine jr.aload_n rfl rfl ?_
          have k30 := kf_1_4 k_t
          refine jr.getf (i := 4) (v := .ref (t + 2)) rfl rfl (Nat.lt_trans (kx_1 k_t).1 (by decide)) (kx_1 k_t).2 (by decide) rfl rfl rfl (jval_ref rfl k30.1) ?_
          refine jr.iconst rfl ?_
          obtain ⟨v31, e31⟩ : ∃ z_, M ((t + 2)) 1 = z_ := ⟨_, rfl⟩
          have b31 : (-2147483648) ≤ v31 ∧ v31 ≤ 2147483647 := by rw [← e31]; exact (CI.r hC_M k30.2 (by decide) 1)
          refine jr.iald (i := 1) (x := v31) rfl (Nat.lt_trans (kx_7 k30.2).1 (by decide)) (kx_7 k30.2).2 (by decide) (by omega) (by omega) e31 ?_
          refine jr_s rfl rfl (Or.inl rfl) ⟨Nat.le_of_ble_eq_true rfl, Nat.le_of_ble_eq_true rfl⟩ rfl rfl (jc.deep (c_Flow_hasEnd hC_M k_x (by omega) (by omega) (by omega) (fun r32 z32  => ?_)) (Nat.le_of_ble_eq_true rfl))
          refine jr.if_eq rfl rfl (by first | (refine rgb (by assumption) ?_; exact rfl) | omega) (fun h68 => ?_) (fun h68 => ?_)
          · refine jr.aload_n rfl rfl ?_
            obtain ⟨v33, e33⟩ : ∃ z_, M t 13 = z_ := ⟨_, rfl⟩
            have b33 : (-2147483648) ≤ v33 ∧ v33 ≤ 2147483647 := by rw [← e33]; exact (CI.r hC_M k_t (by decide) 13)
            refine jr.getf (i := 13) (x := v33) (v := .int (Int32.ofInt (v33))) rfl rfl (Nat.lt_trans (kx_1 k_t).1 (by decide)) (kx_1 k_t).2 (by decide) rfl rfl e33 rfl ?_
            refine jr.iconst rfl ?_
            refine jr.icmp_ne rfl rfl (by first | (refine rgb (by assumption) ?_; exact rfl) | omega) (rgl rfl) (fun h78 => ?_) (fun h78 => ?_)
            · refine jr.aload_n rfl rfl ?_
              refine jr.iconst rfl ?_
              refine jr.aload_n rfl rfl ?_
              obtain ⟨v34, e34⟩ : ∃ z_, M t 14 = z_ := ⟨_, rfl⟩
              have b34 : (-9223372036854775808) ≤ v34 ∧ v34 ≤ 9223372036854775807 := by rw [← e34]; exact (CI.r hC_M k_t (by decide) 14)
              refine jr.getf (i := 14) (x := v34) (v := .long (Int64.ofInt (v34))) rfl rfl (Nat.lt_trans (kx_1 k_t).1 (by decide)) (kx_1 k_t).2 (by decide) rfl rfl e34 rfl ?_
              refine jr.aload_n rfl rfl ?_
              obtain ⟨v35, e35⟩ : ∃ z_, M t 15 = z_ := ⟨_, rfl⟩
              have b35 : (-2147483648) ≤ v35 ∧ v35 ≤ 2147483647 := by rw [← e35]; exact (CI.r hC_M k_t (by decide) 15)
              refine jr.getf (i := 15) (x := v35) (v := .int (Int32.ofInt (v35))) rfl rfl (Nat.lt_trans (kx_1 k_t).1 (by decide)) (kx_1 k_t).2 (by decide) rfl rfl e35 rfl ?_
              refine jr_s rfl rfl (Or.inl rfl) ⟨Nat.le_of_ble_eq_true rfl, Nat.le_of_ble_eq_true rfl⟩ rfl rfl (jc.deep (c_Flow_hasEnd hC_M k_x (by omega) (by omega) (by omega) (fun r36 z36  => ?_)) (Nat.le_of_ble_eq_true rfl))
              refine jr.istore_n (ls' := [_, _, _]) rfl (nlt rfl) rfl ?_
              refine jr.iload_n rfl rfl ?_
              refine jr.if_eq rfl rfl (by first | (refine rgb (by assumption) ?_; exact rfl) | omega) (fun h116 => ?_) (fun h116 => ?_)
              · refine jr.iconst rfl ?_
                exact jr.ireturn rfl rfl rfl (q _ (by first | exact rgq rfl | omega) )
              · have sx116 : (1 : Int) ≤ r36 := by omega
                clear h116
                refine jr.aload_n rfl rfl ?_
                refine jr.iconst rfl ?_
                refine jr.aload_n rfl rfl ?_
                have k37 := kf_1_3 k_t
                refine jr.getf (i := 3) (v := .ref (t + 1)) rfl rfl (Nat.lt_trans (kx_1 k_t).1 (by decide)) (kx_1 k_t).2 (by decide) rfl rfl rfl (jval_ref rfl k37.1) ?_
                refine jr.iconst rfl ?_
                refine jr.lald (i := 1) (x := v29) rfl (Nat.lt_trans (kx_2 k37.2).1 (by decide)) (kx_2 k37.2).2 (by decide) (by omega) (by omega) e29 ?_
                refine jr.aload_n rfl rfl ?_
                have k38 := kf_1_4 k_t
                refine jr.getf (i := 4) (v := .ref (t + 2)) rfl rfl (Nat.lt_trans (kx_1 k_t).1 (by decide)) (kx_1 k_t).2 (by decide) rfl rfl rfl (jval_ref rfl k38.1) ?_
                refine jr.iconst rfl ?_
                refine jr.iald (i := 1) (x := v31) rfl (Nat.lt_trans (kx_7 k38.2).1 (by decide)) (kx_7 k38.2).2 (by decide) (by omega) (by omega) e31 ?_
                refine jr_s rfl rfl (Or.inl rfl) ⟨Nat.le_of_ble_eq_true rfl, Nat.le_of_ble_eq_true rfl⟩ rfl rfl (jc.deep (c_Flow_hasEnd hC_M k_x (by omega) (by omega) (by omega) (fun r39 z39  => ?_)) (Nat.le_of_ble_eq_true rfl))
                refine jr.if_eq rfl rfl (by first | (refine rgb (by assumption) ?_; exact rfl) | omega) (fun h136 => ?_) (fun h136 => ?_)
                · refine jr.iconst rfl ?_
                  exact jr.ireturn rfl rfl rfl (q _ (by first | exact rgq rfl | omega) )
                · have sx136 : (1 : Int) ≤ r39 := by omega
                  clear h136
                  refine jr.iconst rfl ?_
                  refine jr.goto rfl rfl ?_
                  exact jr.ireturn rfl rfl rfl (q _ (by first | exact rgq rfl | omega) )
            · refine jr.aload_n rfl rfl ?_
              refine jr.iconst rfl ?_
              refine jr.aload_n rfl rfl ?_
              have k40 := kf_1_3 k_t
              refine jr.getf (i := 3) (v := .ref (t + 1)) rfl rfl (Nat.lt_trans (kx_1 k_t).1 (by decide)) (kx_1 k_t).2 (by decide) rfl rfl rfl (jval_ref rfl k40.1) ?_
              refine jr.iconst rfl ?_
              refine jr.lald (i := 0) (x := v7) rfl (Nat.lt_trans (kx_2 k40.2).1 (by decide)) (kx_2 k40.2).2 (by decide) (by omega) (by omega) e7 ?_
              refine jr.aload_n rfl rfl ?_
              have k41 := kf_1_4 k_t
              refine jr.getf (i := 4) (v := .ref (t + 2)) rfl rfl (Nat.lt_trans (kx_1 k_t).1 (by decide)) (kx_1 k_t).2 (by decide) rfl rfl rfl (jval_ref rfl k41.1) ?_
              refine jr.iconst rfl ?_
              refine jr.iald (i := 0) (x := v9) rfl (Nat.lt_trans (kx_7 k41.2).1 (by decide)) (kx_7 k41.2).2 (by decide) (by omega) (by omega) e9 ?_
              refine jr_s rfl rfl (Or.inl rfl) ⟨Nat.le_of_ble_eq_true rfl, Nat.le_of_ble_eq_true rfl⟩ rfl rfl (jc.deep (c_Flow_hasEnd hC_M k_x (by omega) (by omega) (by omega) (fun r42 z42  => ?_)) (Nat.le_of_ble_eq_true rfl))
              refine jr.goto rfl rfl ?_
              refine jr.istore_n (ls' := [_, _, _]) rfl (nlt rfl) rfl ?_
              refine jr.iload_n rfl rfl ?_
              refine jr.if_eq rfl rfl (by first | (refine rgb (by assumption) ?_; exact rfl) | omega) (fun h116 => ?_) (fun h116 => ?_)
              · refine jr.iconst rfl ?_
                exact jr.ireturn rfl rfl rfl (q _ (by first | exact rgq rfl | omega) )
              · have sx116 : (1 : Int) ≤ r42 := by omega
                clear h116
                refine jr.aload_n rfl rfl ?_
                refine jr.iconst rfl ?_
                refine jr.aload_n rfl rfl ?_
                have k43 := kf_1_3 k_t
                refine jr.getf (i := 3) (v := .ref (t + 1)) rfl rfl (Nat.lt_trans (kx_1 k_t).1 (by decide)) (kx_1 k_t).2 (by decide) rfl rfl rfl (jval_ref rfl k43.1) ?_
                refine jr.iconst rfl ?_
                refine jr.lald (i := 1) (x := v29) rfl (Nat.lt_trans (kx_2 k43.2).1 (by decide)) (kx_2 k43.2).2 (by decide) (by omega) (by omega) e29 ?_
                refine jr.aload_n rfl rfl ?_
                have k44 := kf_1_4 k_t
                refine jr.getf (i := 4) (v := .ref (t + 2)) rfl rfl (Nat.lt_trans (kx_1 k_t).1 (by decide)) (kx_1 k_t).2 (by decide) rfl rfl rfl (jval_ref rfl k44.1) ?_
                refine jr.iconst rfl ?_
                refine jr.iald (i := 1) (x := v31) rfl (Nat.lt_trans (kx_7 k44.2).1 (by decide)) (kx_7 k44.2).2 (by decide) (by omega) (by omega) e31 ?_
                refine jr_s rfl rfl (Or.inl rfl) ⟨Nat.le_of_ble_eq_true rfl, Nat.le_of_ble_eq_true rfl⟩ rfl rfl (jc.deep (c_Flow_hasEnd hC_M k_x (by omega) (by omega) (by omega) (fun r45 z45  => ?_)) (Nat.le_of_ble_eq_true rfl))
                refine jr.if_eq rfl rfl (by first | (refine rgb (by assumption) ?_; exact rfl) | omega) (fun h136 => ?_) (fun h136 => ?_)
                · refine jr.iconst rfl ?_
                  exact jr.ireturn rfl rfl rfl (q _ (by first | exact rgq rfl | omega) )
                · have sx136 : (1 : Int) ≤ r45 := by omega
                  clear h136
                  refine jr.iconst rfl ?_
                  refine jr.goto rfl rfl ?_
                  exact jr.ireturn rfl rfl rfl (q _ (by first | exact rgq rfl | omega) )
          · have sx68 : (1 : Int) ≤ r32 := by omega
            clear h68
            refine jr.iconst rfl ?_
            exact jr.ireturn rfl rfl rfl (q _ (by first | exact rgq rfl | omega) )
      · refine jr.iconst rfl ?_
        exact jr.ireturn rfl rfl rfl (q _ (by first | exact rgq rfl | omega) )
theorem c_Flow_sideOf_d {A : Nat → Option (Nat × (Nat → Int32))} {Q : Option Value → jm → Prop} {M : jm} (hC_M : CI M) {t : Nat} (k_t : kd t = 1) {x : Nat} (k_x : kd x = 1) (q : ∀ r : Int, (-1) ≤ r ∧ r ≤ 1 → jc A 2 60 [.ref (t), .ref (x)] M (fun z M_ => z = (some (.int (Int32.ofInt r))) ∧ M_ = M) → Q (some (.int (Int32.ofInt r))) M) : jc A 2 60 [.ref (t), .ref (x)] M Q := by
  obtain ⟨K, rv, M1, h1, r, hr, hz, hM⟩ := c_Flow_sideOf (A := A) hC_M k_t k_x (Q := fun z M_ => ∃ r : Int, ((-1) ≤ r ∧ r ≤ 1) ∧ z = (some (.int (Int32.ofInt r))) ∧ M_ = M) (fun r hr => ⟨r, hr, rfl, rfl⟩)
  refine ⟨K, rv, M1, h1, ?_⟩
  rw [hz, hM]
  exact q r hr ⟨K, rv, M1, h1, hz, hM⟩
theorem c_Flows_flowOfEnds_L2 {A : Nat → Option (Nat × (Nat → Int32))} {Q : Option Value → jm → Prop} {M : jm} (hC_M : CI M) {V : Int} (q : ∀ (r : Int), (-1) ≤ r ∧ r ≤ 23 → (r = (-1) ∨ ((0 ≤ r ∧ r ≤ 23) ∧ ∃ s : Int, (0 ≤ s ∧ s ≤ 1) ∧ jc A 2 60 [.ref (xe (V.toNat) r), .ref 18] M (fun z M_ => z = some (.int (Int32.ofInt s)) ∧ M_ = M))) → Q (some (.int (Int32.ofInt r))) M) : ∀ (nM : Nat) (i : Int), 0 ≤ i ∧ i ≤ 24 → M 15 0 = V → 24 - i ≤ nM → jr A 2 xm_88 2 [(1, .int (Int32.ofInt (i))), (0, .ref (15))] [] M Q := by
  intro nM
  induction nM using Nat.strongRecOn with
  | ind nM ih =>
    intro i h_i g_V hm
    have b_V : 16 ≤ V ∧ V ≤ 17 := by rw [← g_V]; exact (CI.r hC_M (show kd 15 = 9 from rfl) (by decide) 0)
    refine jr.iload_n rfl rfl ?_
    refine jr.bipush rfl (jbp _ (nlt rfl)) ?_
    refine jr.icmp_ge rfl rfl (by first | (refine rgb (by assumption) ?_; exact rfl) | omega) (rgl rfl) (fun h5 => ?_) (fun h5 => ?_)
    · refine jr.iconst rfl ?_
      exact jr.ireturn rfl rfl rfl (q _ (by first | exact rgq rfl | omega) (Or.inl rfl))
    · refine jr.aload_n rfl rfl ?_
      have k1 : kd (V).toNat = 13 := by rcases (show V = 16 ∨ V = 17 by omega) with h | h <;> (rw [h]; rfl)
      refine jr.getf (i := 0) (x := V) (v := .ref (V.toNat)) rfl rfl (nlt rfl) rfl (nlt rfl) rfl rfl g_V rfl ?_
      refine jr.iload_n rfl rfl ?_
      have k2 := kxe_13 k1 (i := i) (by omega) (by omega)
      refine jr.aald (c := (xe ((V.toNat)) i)) rfl (Nat.lt_trans (kx_13 k1).1 (by decide)) (kx_13 k1).2 (by decide) (by decide) rfl (by decide) (by omega) (by omega) k2.1 ?_
      refine jr.aload_n rfl rfl ?_
      refine jr.getf (i := 2) (v := .ref 18) rfl rfl (nlt rfl) rfl (nlt rfl) rfl rfl rfl rfl ?_
      refine jr_v rfl rfl (Or.inl rfl) rfl rfl (Nat.lt_trans (kx_1 k2.2).1 (by decide)) (kx_1 k2.2).2 ⟨rfl, Nat.le_of_ble_eq_true rfl, Nat.le_of_ble_eq_true rfl⟩ rfl (jc.deep (c_Flow_sideOf_d hC_M k2.2 (show kd 18 = 1 from rfl) (fun r3 z3 w3_0 => ?_)) (Nat.le_of_ble_eq_true rfl))
      refine jr.iconst rfl ?_
      refine jr.icmp_eq rfl rfl (by first | (refine rgb (by assumption) ?_; exact rfl) | omega) (rgl rfl) (fun h22 => ?_) (fun h22 => ?_)
      · refine jr.iinc (ls' := [_, _]) rfl rfl (nlt rfl) rfl ?_
        refine jr.goto rfl rfl ?_
        refine jr.pick (ls := [_, _]) [0, 1] rfl rfl ?_
        exact ih (nM - 1) (by omega) (i + 1) (by omega) g_V (by omega)
      · have sx22 : (0 : Int) ≤ r3 := by omega
        clear h22
        refine jr.iload_n rfl rfl ?_
        exact jr.ireturn rfl rfl rfl (q _ (by omega) (Or.inr ⟨⟨by omega, by omega⟩, r3, ⟨by omega, by omega⟩, w3_0⟩))
theorem c_Flows_flowOfEnds {A : Nat → Option (Nat × (Nat → Int32))} {Q : Option Value → jm → Prop} {M : jm} (hC_M : CI M) {V : Int} (g_V : M 15 0 = V) (q : ∀ (r : Int), (-1) ≤ r ∧ r ≤ 23 → (r = (-1) ∨ ((0 ≤ r ∧ r ≤ 23) ∧ ∃ s : Int, (0 ≤ s ∧ s ≤ 1) ∧ jc A 2 60 [.ref (xe (V.toNat) r), .ref 18] M (fun z M_ => z = some (.int (Int32.ofInt s)) ∧ M_ = M))) → Q (some (.int (Int32.ofInt r))) M) : jc A 3 88 [.ref (15)] M Q := by
  refine jc_of (m := xm_88) rfl (Nat.le_of_ble_eq_true rfl) rfl ?_
  have b_V : 16 ≤ V ∧ V ≤ 17 := by rw [← g_V]; exact (CI.r hC_M (show kd 15 = 9 from rfl) (by decide) 0)
  refine jr.iconst rfl ?_
  refine jr.istore_n (ls' := [_, _]) rfl (nlt rfl) rfl ?_
  refine jr.pick (ls := [_, _]) [0, 1] rfl rfl ?_
  exact c_Flows_flowOfEnds_L2 hC_M  q 24 0 (by omega) g_V (by omega)
