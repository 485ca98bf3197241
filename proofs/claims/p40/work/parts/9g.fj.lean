section
/-! ===== the class: sorts of a stream, lives, forgetting, gathered ===== -/
theorem jbt0 : ∀ n : Nat, n < 256 → j_and (n : Int) 1 = ((n % 2 : Nat) : Int) ∧ j_and (n : Int) 2 = ((n / 2 % 2 * 2 : Nat) : Int) ∧ j_and (n : Int) 4 = ((n / 4 % 2 * 4 : Nat) : Int) ∧ j_and (n : Int) 16 = ((n / 16 % 2 * 16 : Nat) : Int) := by decide +kernel
theorem jbt {x : Int} (h : 0 ≤ x ∧ x ≤ 255) : j_and x 1 = x % 2 ∧ j_and x 2 = x / 2 % 2 * 2 ∧ j_and x 4 = x / 4 % 2 * 4 ∧ j_and x 16 = x / 16 % 2 * 16 := by
  obtain ⟨n, rfl⟩ := Int.eq_ofNat_of_zero_le h.1
  have q := jbt0 n (by omega)
  refine ⟨?_, ?_, ?_, ?_⟩
  · rw [q.1]; omega
  · rw [q.2.1]; omega
  · rw [q.2.2.1]; omega
  · rw [q.2.2.2]; omega
noncomputable def scf (x : Int) : Int := if x / 4 % 2 = 1 then 3 else if x / 2 % 2 = 1 then (if x / 16 % 2 = 1 then 1 else 0) else if x % 2 = 1 then 2 else if x / 16 % 2 = 1 then 4 else 5
noncomputable def lvf (n s : Int) : Int := if n = 1 then 5 else if n = 17 then (if s = 0 then 15 else 40) else if s = 1 ∨ s = 2 then 10 else if s = 3 then 200 else if s = 6 then 20 else if s = 9 then 8 else if s = 10 then 3 else if 1 ≤ s ∧ s ≤ 10 then 40 else 0
theorem scf_3 {x : Int} (h : x / 4 % 2 = 1) : scf x = 3 := if_pos h
theorem scf_n {x : Int} (h : ¬ x / 4 % 2 = 1) : scf x = if x / 2 % 2 = 1 then (if x / 16 % 2 = 1 then 1 else 0) else if x % 2 = 1 then 2 else if x / 16 % 2 = 1 then 4 else 5 := if_neg h
theorem lvf_o {n s : Int} (h : ¬ n = 1) (g : ¬ n = 17) : lvf n s = if s = 1 ∨ s = 2 then 10 else if s = 3 then 200 else if s = 6 then 20 else if s = 9 then 8 else if s = 10 then 3 else if 1 ≤ s ∧ s ≤ 10 then 40 else 0 := by
  unfold lvf
  rw [if_neg h, if_neg g]
theorem lv0 : ∀ n : Nat, n < 10 → xcv_6 (n : Int) = (if n = 0 ∨ n = 1 then 10 else if n = 2 then 200 else if n = 5 then 20 else if n = 8 then 8 else if n = 9 then 3 else 40) := by decide +kernel
theorem lv1 {n s : Int} (h1 : n ≠ 1) (h2 : n ≠ 17) (hs : 1 ≤ s ∧ s ≤ 10) : xcv_6 (s - 1) = lvf n s := by
  obtain ⟨m, hm⟩ : ∃ m : Nat, s = m + 1 := ⟨(s - 1).toNat, by omega⟩
  subst hm
  rw [show ((m : Int) + 1 - 1) = (m : Int) by omega, lv0 m (by omega)]
  unfold lvf
  rw [if_neg h1, if_neg h2]
  (repeat' split) <;> omega
theorem c_Flow_streamClass_x {A : Nat → Option (Nat × (Nat → Int32))} {Q : Option Value → jm → Prop} {M : jm} (hC_M : CI M) {x : Int} (h_x : 0 ≤ x ∧ x ≤ 255) (q : ∀ (r : Int), 0 ≤ r ∧ r ≤ 5 → (r = scf x) → Q (some (.int (Int32.ofInt r))) M) : jc A 1 70 [.int (Int32.ofInt (x))] M Q := by
  refine jc_of (m := xm_70) rfl (Nat.le_of_ble_eq_true rfl) rfl ?_
  refine jr.iload_n rfl rfl ?_
  refine jr.bipush rfl (jbp _ (nlt rfl)) ?_
  refine jr.iand rfl ?_
  have b1 : j_and x 16 = x / 16 % 2 * 16 ∧ 0 ≤ j_and x 16 ∧ j_and x 16 ≤ 16 := ⟨(jbt (by omega)).2.2.2, by rw [(jbt (by omega)).2.2.2]; omega⟩
  generalize j_and x 16 = v1 at b1 ⊢
  refine jr.if_eq rfl rfl (by first | (refine rgb (by assumption) ?_; exact rfl) | omega) (fun h4 => ?_) (fun h4 => ?_)
  · refine jr.iconst rfl ?_
    refine jr.istore_n (ls' := [_, _]) rfl (nlt rfl) rfl ?_
    refine jr.iload_n rfl rfl ?_
    refine jr.iconst rfl ?_
    refine jr.iand rfl ?_
    have b2 : j_and x 4 = x / 4 % 2 * 4 ∧ 0 ≤ j_and x 4 ∧ j_and x 4 ≤ 16 := ⟨(jbt (by omega)).2.2.1, by rw [(jbt (by omega)).2.2.1]; omega⟩
    generalize j_and x 4 = v2 at b2 ⊢
    refine jr.if_eq rfl rfl (by first | (refine rgb (by assumption) ?_; exact rfl) | omega) (fun h16 => ?_) (fun h16 => ?_)
    · refine jr.iload_n rfl rfl ?_
      refine jr.iconst rfl ?_
      refine jr.iand rfl ?_
      have b3 : j_and x 2 = x / 2 % 2 * 2 ∧ 0 ≤ j_and x 2 ∧ j_and x 2 ≤ 16 := ⟨(jbt (by omega)).2.1, by rw [(jbt (by omega)).2.1]; omega⟩
      generalize j_and x 2 = v3 at b3 ⊢
      refine jr.if_eq rfl rfl (by first | (refine rgb (by assumption) ?_; exact rfl) | omega) (fun h24 => ?_) (fun h24 => ?_)
      · refine jr.iload_n rfl rfl ?_
        refine jr.iconst rfl ?_
        refine jr.iand rfl ?_
        have b4 : j_and x 1 = x % 2 ∧ 0 ≤ j_and x 1 ∧ j_and x 1 ≤ 16 := ⟨(jbt (by omega)).1, by rw [(jbt (by omega)).1]; omega⟩
        generalize j_and x 1 = v4 at b4 ⊢
        refine jr.if_eq rfl rfl (by first | (refine rgb (by assumption) ?_; exact rfl) | omega) (fun h40 => ?_) (fun h40 => ?_)
        · refine jr.iload_n rfl rfl ?_
          refine jr.if_eq rfl rfl (by first | exact rgl rfl | omega) (fun _ => ?_) (fun h => absurd (by decide) h)
          refine jr.iconst rfl ?_
          exact jr.ireturn rfl rfl rfl (q _ (by first | exact rgq rfl | omega) (by rw [scf_n (by omega), if_neg (by omega), if_neg (by omega), if_neg (by omega)]))
        · have sx40 : (1 : Int) ≤ v4 := by omega
          clear h40
          refine jr.iconst rfl ?_
          exact jr.ireturn rfl rfl rfl (q _ (by first | exact rgq rfl | omega) (by rw [scf_n (by omega), if_neg (by omega), if_pos (by omega)]))
      · have sx24 : (1 : Int) ≤ v3 := by omega
        clear h24
        refine jr.iload_n rfl rfl ?_
        refine jr.if_eq rfl rfl (by first | exact rgl rfl | omega) (fun _ => ?_) (fun h => absurd (by decide) h)
        refine jr.iconst rfl ?_
        exact jr.ireturn rfl rfl rfl (q _ (by first | exact rgq rfl | omega) (by rw [scf_n (by omega), if_pos (by omega), if_neg (by omega)]))
    · have sx16 : (1 : Int) ≤ v2 := by omega
      clear h16
      refine jr.iconst rfl ?_
      exact jr.ireturn rfl rfl rfl (q _ (by first | exact rgq rfl | omega) (scf_3 (by omega)).symm)
  · have sx4 : (1 : Int) ≤ v1 := by omega
    clear h4
    refine jr.iconst rfl ?_
    refine jr.goto rfl rfl ?_
    refine jr.istore_n (ls' := [_, _]) rfl (nlt rfl) rfl ?_
    refine jr.iload_n rfl rfl ?_
    refine jr.iconst rfl ?_
    refine jr.iand rfl ?_
    have b5 : j_and x 4 = x / 4 % 2 * 4 ∧ 0 ≤ j_and x 4 ∧ j_and x 4 ≤ 16 := ⟨(jbt (by omega)).2.2.1, by rw [(jbt (by omega)).2.2.1]; omega⟩
    generalize j_and x 4 = v5 at b5 ⊢
    refine jr.if_eq rfl rfl (by first | (refine rgb (by assumption) ?_; exact rfl) | omega) (fun h16 => ?_) (fun h16 => ?_)
    · refine jr.iload_n rfl rfl ?_
      refine jr.iconst rfl ?_
      refine jr.iand rfl ?_
      have b6 : j_and x 2 = x / 2 % 2 * 2 ∧ 0 ≤ j_and x 2 ∧ j_and x 2 ≤ 16 := ⟨(jbt (by omega)).2.1, by rw [(jbt (by omega)).2.1]; omega⟩
      generalize j_and x 2 = v6 at b6 ⊢
      refine jr.if_eq rfl rfl (by first | (refine rgb (by assumption) ?_; exact rfl) | omega) (fun h24 => ?_) (fun h24 => ?_)
      · refine jr.iload_n rfl rfl ?_
        refine jr.iconst rfl ?_
        refine jr.iand rfl ?_
        have b7 : j_and x 1 = x % 2 ∧ 0 ≤ j_and x 1 ∧ j_and x 1 ≤ 16 := ⟨(jbt (by omega)).1, by rw [(jbt (by omega)).1]; omega⟩
        generalize j_and x 1 = v7 at b7 ⊢
        refine jr.if_eq rfl rfl (by first | (refine rgb (by assumption) ?_; exact rfl) | omega) (fun h40 => ?_) (fun h40 => ?_)
        · refine jr.iload_n rfl rfl ?_
          refine jr.if_eq rfl rfl (by first | exact rgl rfl | omega) (fun h => absurd h (by decide)) (fun _ => ?_)
          refine jr.iconst rfl ?_
          refine jr.goto rfl rfl ?_
          exact jr.ireturn rfl rfl rfl (q _ (by first | exact rgq rfl | omega) (by rw [scf_n (by omega), if_neg (by omega), if_neg (by omega), if_pos (by omega)]))
        · have sx40 : (1 : Int) ≤ v7 := by omega
          clear h40
          refine jr.iconst rfl ?_
          exact jr.ireturn rfl rfl rfl (q _ (by first | exact rgq rfl | omega) (by rw [scf_n (by omega), if_neg (by omega), if_pos (by omega)]))
      · have sx24 : (1 : Int) ≤ v6 := by omega
        clear h24
        refine jr.iload_n rfl rfl ?_
        refine jr.if_eq rfl rfl (by first | exact rgl rfl | omega) (fun h => absurd h (by decide)) (fun _ => ?_)
        refine jr.iconst rfl ?_
        refine jr.goto rfl rfl ?_
        exact jr.ireturn rfl rfl rfl (q _ (by first | exact rgq rfl | omega) (by rw [scf_n (by omega), if_pos (by omega), if_pos (by omega)]))
    · have sx16 : (1 : Int) ≤ v5 := by omega
      clear h16
      refine jr.iconst rfl ?_
      exact jr.ireturn rfl rfl rfl (q _ (by first | exact rgq rfl | omega) (scf_3 (by omega)).symm)
theorem c_Flow_lifeNow_x {A : Nat → Option (Nat × (Nat → Int32))} {Q : Option Value → jm → Prop} {M : jm} (hC_M : CI M) {t : Nat} (k_t : kd t = 1) {N_ : Int} (g_N_ : M t 2 = N_) {S_ : Int} (g_S_ : M t 5 = S_) (q : ∀ (r : Int), 0 ≤ r ∧ r ≤ 200 → (r = lvf N_ S_) → Q (some (.int (Int32.ofInt r))) M) : jc A 1 69 [.ref (t)] M Q := by
  refine jc_of (m := xm_69) rfl (Nat.le_of_ble_eq_true rfl) rfl ?_
  have b_N_ : (-2147483648) ≤ N_ ∧ N_ ≤ 2147483647 := by rw [← g_N_]; exact (CI.r hC_M k_t (by decide) 2)
  have b_S_ : (-2147483648) ≤ S_ ∧ S_ ≤ 2147483647 := by rw [← g_S_]; exact (CI.r hC_M k_t (by decide) 5)
  refine jr.aload_n rfl rfl ?_
  refine jr.getf (i := 2) (x := N_) (v := .int (Int32.ofInt (N_))) rfl rfl (Nat.lt_trans (kx_1 k_t).1 (by decide)) (kx_1 k_t).2 (by decide) rfl rfl g_N_ rfl ?_
  refine jr.iconst rfl ?_
  refine jr.icmp_ne rfl rfl (by first | (refine rgb (by assumption) ?_; exact rfl) | omega) (rgl rfl) (fun h5 => ?_) (fun h5 => ?_)
  · refine jr.aload_n rfl rfl ?_
    refine jr.getf (i := 2) (x := N_) (v := .int (Int32.ofInt (N_))) rfl rfl (Nat.lt_trans (kx_1 k_t).1 (by decide)) (kx_1 k_t).2 (by decide) rfl rfl g_N_ rfl ?_
    refine jr.bipush rfl (jbp _ (nlt rfl)) ?_
    refine jr.icmp_ne rfl rfl (by first | (refine rgb (by assumption) ?_; exact rfl) | omega) (rgl rfl) (fun h16 => ?_) (fun h16 => ?_)
    · refine jr.aload_n rfl rfl ?_
      refine jr.getf (i := 5) (x := S_) (v := .int (Int32.ofInt (S_))) rfl rfl (Nat.lt_trans (kx_1 k_t).1 (by decide)) (kx_1 k_t).2 (by decide) rfl rfl g_S_ rfl ?_
      refine jr.iconst rfl ?_
      refine jr.icmp_lt rfl rfl (by first | (refine rgb (by assumption) ?_; exact rfl) | omega) (rgl rfl) (fun h39 => ?_) (fun h39 => ?_)
      · refine jr.iconst rfl ?_
        exact jr.ireturn rfl rfl rfl (q _ (by first | exact rgq rfl | omega) (by unfold lvf; (repeat' split) <;> omega))
      · refine jr.aload_n rfl rfl ?_
        refine jr.getf (i := 5) (x := S_) (v := .int (Int32.ofInt (S_))) rfl rfl (Nat.lt_trans (kx_1 k_t).1 (by decide)) (kx_1 k_t).2 (by decide) rfl rfl g_S_ rfl ?_
        refine jr.bipush rfl (jbp _ (nlt rfl)) ?_
        refine jr.icmp_gt rfl rfl (by first | (refine rgb (by assumption) ?_; exact rfl) | omega) (rgl rfl) (fun h48 => ?_) (fun h48 => ?_)
        · refine jr.iconst rfl ?_
          exact jr.ireturn rfl rfl rfl (q _ (by first | exact rgq rfl | omega) (by unfold lvf; (repeat' split) <;> omega))
        · refine jr.gst (v := .ref 1000006) rfl rfl ?_
          refine jr.aload_n rfl rfl ?_
          refine jr.getf (i := 5) (x := S_) (v := .int (Int32.ofInt (S_))) rfl rfl (Nat.lt_trans (kx_1 k_t).1 (by decide)) (kx_1 k_t).2 (by decide) rfl rfl g_S_ rfl ?_
          refine jr.iconst rfl ?_
          refine jr.isub rfl ?_
          obtain ⟨v1, e1⟩ : ∃ z_, xcv_6 (S_ - 1) = z_ := ⟨_, rfl⟩
          have b1 : 3 ≤ v1 ∧ v1 ≤ 200 := by rw [← e1]; exact xcr_6 (by omega) (by omega)
          refine jr.ials (i := (S_ - 1)) v1 rfl (by decide) rfl (by decide) (by omega) (by omega) (by rw [← e1]; exact (Int32.ofInt_toInt _).symm) ?_
          refine jr.goto rfl rfl ?_
          exact jr.ireturn rfl rfl rfl (q _ (by omega) (by rw [← lv1 (by omega) (by omega) (by omega)]; omega))
    · refine jr.aload_n rfl rfl ?_
      refine jr.getf (i := 5) (x := S_) (v := .int (Int32.ofInt (S_))) rfl rfl (Nat.lt_trans (kx_1 k_t).1 (by decide)) (kx_1 k_t).2 (by decide) rfl rfl g_S_ rfl ?_
      refine jr.if_ne rfl rfl (by first | (refine rgb (by assumption) ?_; exact rfl) | omega) (fun h23 => ?_) (fun h23 => ?_)
      · refine jr.bipush rfl (jbp _ (nlt rfl)) ?_
        exact jr.ireturn rfl rfl rfl (q _ (by first | exact rgq rfl | omega) (by unfold lvf; (repeat' split) <;> omega))
      · refine jr.bipush rfl (jbp _ (nlt rfl)) ?_
        refine jr.goto rfl rfl ?_
        exact jr.ireturn rfl rfl rfl (q _ (by first | exact rgq rfl | omega) (by unfold lvf; (repeat' split) <;> omega))
  · refine jr.iconst rfl ?_
    exact jr.ireturn rfl rfl rfl (q _ (by first | exact rgq rfl | omega) (by unfold lvf; (repeat' split) <;> omega))
theorem c_PacketWall_gathered_x {A : Nat → Option (Nat × (Nat → Int32))} {Q : Option Value → jm → Prop} {M : jm} (hC_M : CI M) {x : Int} (h_x : (-2147483648) ≤ x ∧ x ≤ 2147483647) (q : ∀ (r : Int), (-2147483648) ≤ r ∧ r ≤ 2147483647 → (((0 ≤ x ∧ x < 5) ∧ r = M 14 x) ∨ ((x < 0 ∨ 5 ≤ x) ∧ r = -3)) → Q (some (.int (Int32.ofInt r))) M) : jc A 1 17 [.ref (0), .int (Int32.ofInt (x))] M Q := by
  refine jc_of (m := xm_17) rfl (Nat.le_of_ble_eq_true rfl) rfl ?_
  refine jr.iload_n rfl rfl ?_
  refine jr.if_lt rfl rfl (by first | (refine rgb (by assumption) ?_; exact rfl) | omega) (fun h1 => ?_) (fun h1 => ?_)
  · refine jr.bipush rfl (by decide) ?_
    refine jr.goto rfl rfl ?_
    exact jr.ireturn rfl rfl rfl (q _ (by first | exact rgq rfl | omega) (by omega))
  · refine jr.iload_n rfl rfl ?_
    refine jr.aload_n rfl rfl ?_
    refine jr.getf (i := 7) (v := .ref 14) rfl rfl (nlt rfl) rfl (nlt rfl) rfl rfl rfl rfl ?_
    refine jr.alen0 (x := 5) rfl (by decide) rfl rfl ?_
    refine jr.icmp_lt rfl rfl (by first | (refine rgb (by assumption) ?_; exact rfl) | omega) (by first | (refine rgb (by assumption) ?_; exact rfl) | omega) (fun h10 => ?_) (fun h10 => ?_)
    · refine jr.aload_n rfl rfl ?_
      refine jr.getf (i := 7) (v := .ref 14) rfl rfl (nlt rfl) rfl (nlt rfl) rfl rfl rfl rfl ?_
      refine jr.iload_n rfl rfl ?_
      obtain ⟨v1, e1⟩ : ∃ z_, M 14 x = z_ := ⟨_, rfl⟩
      have b1 : (-2147483648) ≤ v1 ∧ v1 ≤ 2147483647 := by rw [← e1]; exact (CI.r hC_M (show kd 14 = 41 from rfl) (by decide) x)
      refine jr.iald (i := x) (x := v1) rfl (nlt rfl) rfl (Nat.le_of_ble_eq_true rfl) (by omega) (by omega) e1 ?_
      exact jr.ireturn rfl rfl rfl (q _ (by omega) (by omega))
    · refine jr.bipush rfl (by decide) ?_
      refine jr.goto rfl rfl ?_
      exact jr.ireturn rfl rfl rfl (q _ (by first | exact rgq rfl | omega) (by omega))
/-- a flow that has forgotten sides below i -/
noncomputable def FGL (T M : jm) (t : Nat) (i : Int) : Prop := (∀ s : Int, 0 ≤ s → s < i → M (t + 3) s = 0 ∧ M (t + 4) s = 0 ∧ M (t + 5) s = 0 ∧ M (t + 6) s = 0 ∧ M (t + 7) s = 0) ∧ ∀ (b : Nat) (k : Int), b ≠ t + 3 → b ≠ t + 4 → b ≠ t + 5 → b ≠ t + 6 → b ≠ t + 7 → M b k = T b k
theorem FGL.s {T M : jm} {t : Nat} {i : Int} (h : FGL T M t i) (h0 : 0 ≤ i) : FGL T (ju (ju (ju (ju (ju M (t + 3) i 0) (t + 4) i 0) (t + 5) i 0) (t + 6) i 0) (t + 7) i 0) t (i + 1) := by
  refine ⟨fun s s0 s1 => ?_, fun b k b3 b4 b5 b6 b7 => ?_⟩
  · simp only [ju]
    by_cases e : s = i
    · subst e
      simp
    · have q := h.1 s s0 (by omega)
      simp [e, q]
  · rw [ju_c _ _ b7, ju_c _ _ b6, ju_c _ _ b5, ju_c _ _ b4, ju_c _ _ b3]
    exact h.2 b k b3 b4 b5 b6 b7
noncomputable def FGT (T M : jm) (t : Nat) : Prop := (∀ s : Int, 0 ≤ s → s < 2 → M (t + 3) s = 0 ∧ M (t + 4) s = 0 ∧ M (t + 5) s = 0 ∧ M (t + 6) s = 0 ∧ M (t + 7) s = 0) ∧ M t 12 = 0 ∧ (∀ k : Int, k ≠ 12 → M t k = T t k) ∧ ∀ (b : Nat) (k : Int), b ≠ t → b ≠ t + 3 → b ≠ t + 4 → b ≠ t + 5 → b ≠ t + 6 → b ≠ t + 7 → M b k = T b k
theorem FGL.e {T M : jm} {t : Nat} (h : FGL T M t 2) : FGT T (ju M t 12 0) t := by
  refine ⟨fun s s0 s1 => ?_, ju_same _ _ _ _, fun k hk => ?_, fun b k b0 b3 b4 b5 b6 b7 => ?_⟩
  · rw [ju_c _ _ (by omega), ju_c _ _ (by omega), ju_c _ _ (by omega), ju_c _ _ (by omega), ju_c _ _ (by omega)]
    exact h.1 s s0 s1
  · rw [ju_i _ _ hk]; exact h.2 t k (by omega) (by omega) (by omega) (by omega) (by omega)
  · rw [ju_c _ _ b0]; exact h.2 b k b3 b4 b5 b6 b7
noncomputable def W_c_Flow_forget_x : List (Nat × Nat) := [(1, 12), (3, 1000), (4, 1000), (5, 1000), (6, 1000), (8, 1000)]
theorem c_Flow_forget_x_L2 {A : Nat → Option (Nat × (Nat → Int32))} {Q : Option Value → jm → Prop} {T : jm} {t : Nat} (k_t : kd t = 1) (q : ∀ (M' : jm), CI M' → FR W_c_Flow_forget_x T M' → (FGT T M' t) → Q none M') : ∀ (nM : Nat) (M : jm) (i : Int), CI M → FR W_c_Flow_forget_x T M → 0 ≤ i ∧ i ≤ 2 → (FGL T M t i) → 2 - i ≤ nM → jr A 0 xm_59 2 [(1, .int (Int32.ofInt (i))), (0, .ref (t))] [] M Q := by
  intro nM
  induction nM using Nat.strongRecOn with
  | ind nM ih =>
    intro M i hC_M ht_M h_i hy0 hm
    refine jr.iload_n rfl rfl ?_
    refine jr.iconst rfl ?_
    refine jr.icmp_ge rfl rfl (by first | (refine rgb (by assumption) ?_; exact rfl) | omega) (rgl rfl) (fun h4 => ?_) (fun h4 => ?_)
    · refine jr.aload_n rfl rfl ?_
      refine jr.iconst rfl ?_
      refine jr.putf (i := 12) (x := 0) rfl rfl (Nat.lt_trans (kx_1 k_t).1 (by decide)) (kx_1 k_t).2 (by decide) rfl rfl rfl rfl rfl ?_
      exact jr.vreturn rfl rfl (q _ (CI.u hC_M (i := 12) k_t (show (0 : Int) ≤ _ ∧ _ ≤ (1 : Int) from by omega) rfl) (FR.o ht_M k_t rfl)  (FGL.e (by have h9 := hy0; rw [show i = 2 from by omega] at h9; exact h9)))
    · refine jr.aload_n rfl rfl ?_
      have k1 := kf_1_7 k_t
      refine jr.getf (i := 7) (v := .ref (t + 3)) rfl rfl (Nat.lt_trans (kx_1 k_t).1 (by decide)) (kx_1 k_t).2 (by decide) rfl rfl rfl (jval_ref rfl k1.1) ?_
      refine jr.iload_n rfl rfl ?_
      refine jr.iconst rfl ?_
      refine jr.iast (i := i) (x := 0) rfl (Nat.lt_trans (kx_5 k1.2).1 (by decide)) (kx_5 k1.2).2 (by decide) (by omega) (by omega) ?_
      refine jr.aload_n rfl rfl ?_
      have k2 := kf_1_8 k_t
      refine jr.getf (i := 8) (v := .ref (t + 4)) rfl rfl (Nat.lt_trans (kx_1 k_t).1 (by decide)) (kx_1 k_t).2 (by decide) rfl rfl rfl (jval_ref rfl k2.1) ?_
      refine jr.iload_n rfl rfl ?_
      refine jr.iconst rfl ?_
      refine jr.zast (i := i) (x := 0) rfl (Nat.lt_trans (kx_4 k2.2).1 (by decide)) (kx_4 k2.2).2 (by decide) (by omega) (by omega) (j_zn (by omega)) ?_
      refine jr.aload_n rfl rfl ?_
      have k3 := kf_1_9 k_t
      refine jr.getf (i := 9) (v := .ref (t + 5)) rfl rfl (Nat.lt_trans (kx_1 k_t).1 (by decide)) (kx_1 k_t).2 (by decide) rfl rfl rfl (jval_ref rfl k3.1) ?_
      refine jr.iload_n rfl rfl ?_
      refine jr.iconst rfl ?_
      refine jr.iast (i := i) (x := 0) rfl (Nat.lt_trans (kx_8 k3.2).1 (by decide)) (kx_8 k3.2).2 (by decide) (by omega) (by omega) ?_
      refine jr.aload_n rfl rfl ?_
      have k4 := kf_1_10 k_t
      refine jr.getf (i := 10) (v := .ref (t + 6)) rfl rfl (Nat.lt_trans (kx_1 k_t).1 (by decide)) (kx_1 k_t).2 (by decide) rfl rfl rfl (jval_ref rfl k4.1) ?_
      refine jr.iload_n rfl rfl ?_
      refine jr.lconst (x := 0) rfl (by decide) ?_
      refine jr.last (i := i) (x := 0) rfl (Nat.lt_trans (kx_6 k4.2).1 (by decide)) (kx_6 k4.2).2 (by decide) (by omega) (by omega) ?_
      refine jr.aload_n rfl rfl ?_
      have k5 := kf_1_11 k_t
      refine jr.getf (i := 11) (v := .ref (t + 7)) rfl rfl (Nat.lt_trans (kx_1 k_t).1 (by decide)) (kx_1 k_t).2 (by decide) rfl rfl rfl (jval_ref rfl k5.1) ?_
      refine jr.iload_n rfl rfl ?_
      refine jr.lconst (x := 0) rfl (by decide) ?_
      refine jr.last (i := i) (x := 0) rfl (Nat.lt_trans (kx_3 k5.2).1 (by decide)) (kx_3 k5.2).2 (by decide) (by omega) (by omega) ?_
      refine jr.iinc (ls' := [_, _]) rfl rfl (nlt rfl) rfl ?_
      refine jr.goto rfl rfl ?_
      refine jr.pick (ls := [_, _]) [0, 1] rfl rfl ?_
      exact ih (nM - 1) (by omega) ((ju (ju (ju (ju (ju M ((t + 3)) i 0) ((t + 4)) i 0) ((t + 5)) i 0) ((t + 6)) i 0) ((t + 7)) i 0)) (i + 1) (CI.u (CI.u (CI.u (CI.u (CI.u hC_M (i := i) k1.2 (show (-2147483648 : Int) ≤ _ ∧ _ ≤ (2147483647 : Int) from by omega) rfl) (i := i) k2.2 (show (0 : Int) ≤ _ ∧ _ ≤ (1 : Int) from by omega) rfl) (i := i) k3.2 (show (-2147483648 : Int) ≤ _ ∧ _ ≤ (2147483647 : Int) from by omega) rfl) (i := i) k4.2 (show (-9223372036854775808 : Int) ≤ _ ∧ _ ≤ (9223372036854775807 : Int) from by omega) rfl) (i := i) k5.2 (show (-9223372036854775808 : Int) ≤ _ ∧ _ ≤ (9223372036854775807 : Int) from by omega) rfl) (FR.o (FR.o (FR.o (FR.o (FR.o ht_M k1.2 rfl) k2.2 rfl) k3.2 rfl) k4.2 rfl) k5.2 rfl) (by omega) (FGL.s hy0 (by omega)) (by omega)
theorem c_Flow_forget_x {A : Nat → Option (Nat × (Nat → Int32))} {Q : Option Value → jm → Prop} {T : jm} {M : jm} (hC_M : CI M) (ht_M : FR W_c_Flow_forget_x T M) {t : Nat} (k_t : kd t = 1) (p0 : T = M) (q : ∀ (M' : jm), CI M' → FR W_c_Flow_forget_x T M' → (FGT T M' t) → Q none M') : jc A 1 59 [.ref (t)] M Q := by
  refine jc_of (m := xm_59) rfl (Nat.le_of_ble_eq_true rfl) rfl ?_
  refine jr.iconst rfl ?_
  refine jr.istore_n (ls' := [_, _]) rfl (nlt rfl) rfl ?_
  refine jr.pick (ls := [_, _]) [0, 1] rfl rfl ?_
  exact c_Flow_forget_x_L2 k_t q 2 M 0 hC_M ht_M (by omega) ⟨fun s s0 s1 => absurd s1 (by omega), fun _ _ _ _ _ _ _ => by rw [p0]⟩ (by omega)
end
section
/-! ===== the reference: sorts of a stream, lives, forgetting, gathered ===== -/
theorem r_classOf_x {A : Nat → Option (Nat × (Nat → Int32))} {Q : Option Value → jm → Prop} {M : jm} (hI_M : RI M) (hH_M : RH M) (hS_M : RF M) {w : Int} (h_w : 0 ≤ w ∧ w ≤ 255) (q : ∀ (r : Int), 0 ≤ r ∧ r ≤ 5 → r = scf w → Q (some (.int (Int32.ofInt r))) M) : jc A 1 307 [.int (Int32.ofInt (w))] M Q := by
  refine jc_of (m := xm_307) rfl (Nat.le_of_ble_eq_true rfl) rfl ?_
  refine jr.iload_n rfl rfl ?_
  refine jr.iconst rfl ?_
  refine jr.iand rfl ?_
  have b1 : j_and w 4 = w / 4 % 2 * 4 ∧ 0 ≤ j_and w 4 ∧ j_and w 4 ≤ 16 := ⟨(jbt (by omega)).2.2.1, by rw [(jbt (by omega)).2.2.1]; omega⟩
  generalize j_and w 4 = v1 at b1 ⊢
  refine jr.if_eq rfl rfl (by first | (refine rgb (by assumption) ?_; exact rfl) | omega) (fun h3 => ?_) (fun h3 => ?_)
  · refine jr.iload_n rfl rfl ?_
    refine jr.iconst rfl ?_
    refine jr.iand rfl ?_
    have b2 : j_and w 2 = w / 2 % 2 * 2 ∧ 0 ≤ j_and w 2 ∧ j_and w 2 ≤ 16 := ⟨(jbt (by omega)).2.1, by rw [(jbt (by omega)).2.1]; omega⟩
    generalize j_and w 2 = v2 at b2 ⊢
    refine jr.if_eq rfl rfl (by first | (refine rgb (by assumption) ?_; exact rfl) | omega) (fun h13 => ?_) (fun h13 => ?_)
    · refine jr.iload_n rfl rfl ?_
      refine jr.iconst rfl ?_
      refine jr.iand rfl ?_
      have b3 : j_and w 1 = w % 2 ∧ 0 ≤ j_and w 1 ∧ j_and w 1 ≤ 16 := ⟨(jbt (by omega)).1, by rw [(jbt (by omega)).1]; omega⟩
      generalize j_and w 1 = v3 at b3 ⊢
      refine jr.if_eq rfl rfl (by first | (refine rgb (by assumption) ?_; exact rfl) | omega) (fun h34 => ?_) (fun h34 => ?_)
      · refine jr.iload_n rfl rfl ?_
        refine jr.bipush rfl (jbp _ (nlt rfl)) ?_
        refine jr.iand rfl ?_
        have b4 : j_and w 16 = w / 16 % 2 * 16 ∧ 0 ≤ j_and w 16 ∧ j_and w 16 ≤ 16 := ⟨(jbt (by omega)).2.2.2, by rw [(jbt (by omega)).2.2.2]; omega⟩
        generalize j_and w 16 = v4 at b4 ⊢
        refine jr.if_eq rfl rfl (by first | (refine rgb (by assumption) ?_; exact rfl) | omega) (fun h45 => ?_) (fun h45 => ?_)
        · refine jr.iconst rfl ?_
          exact jr.ireturn rfl rfl rfl (q _ (by first | exact rgq rfl | omega) (by rw [scf_n (by omega), if_neg (by omega), if_neg (by omega), if_neg (by omega)]))
        · have sx45 : (1 : Int) ≤ v4 := by omega
          clear h45
          refine jr.iconst rfl ?_
          refine jr.goto rfl rfl ?_
          exact jr.ireturn rfl rfl rfl (q _ (by first | exact rgq rfl | omega) (by rw [scf_n (by omega), if_neg (by omega), if_neg (by omega), if_pos (by omega)]))
      · have sx34 : (1 : Int) ≤ v3 := by omega
        clear h34
        refine jr.iconst rfl ?_
        refine jr.goto rfl rfl ?_
        exact jr.ireturn rfl rfl rfl (q _ (by first | exact rgq rfl | omega) (by rw [scf_n (by omega), if_neg (by omega), if_pos (by omega)]))
    · have sx13 : (1 : Int) ≤ v2 := by omega
      clear h13
      refine jr.iload_n rfl rfl ?_
      refine jr.bipush rfl (jbp _ (nlt rfl)) ?_
      refine jr.iand rfl ?_
      have b5 : j_and w 16 = w / 16 % 2 * 16 ∧ 0 ≤ j_and w 16 ∧ j_and w 16 ≤ 16 := ⟨(jbt (by omega)).2.2.2, by rw [(jbt (by omega)).2.2.2]; omega⟩
      generalize j_and w 16 = v5 at b5 ⊢
      refine jr.if_eq rfl rfl (by first | (refine rgb (by assumption) ?_; exact rfl) | omega) (fun h20 => ?_) (fun h20 => ?_)
      · refine jr.iconst rfl ?_
        refine jr.goto rfl rfl ?_
        exact jr.ireturn rfl rfl rfl (q _ (by first | exact rgq rfl | omega) (by rw [scf_n (by omega), if_pos (by omega), if_neg (by omega)]))
      · have sx20 : (1 : Int) ≤ v5 := by omega
        clear h20
        refine jr.iconst rfl ?_
        refine jr.goto rfl rfl ?_
        exact jr.ireturn rfl rfl rfl (q _ (by first | exact rgq rfl | omega) (by rw [scf_n (by omega), if_pos (by omega), if_pos (by omega)]))
  · have sx3 : (1 : Int) ≤ v1 := by omega
    clear h3
    refine jr.iconst rfl ?_
    refine jr.goto rfl rfl ?_
    exact jr.ireturn rfl rfl rfl (q _ (by first | exact rgq rfl | omega) (scf_3 (by omega)).symm)
theorem r_lives_x {A : Nat → Option (Nat × (Nat → Int32))} {Q : Option Value → jm → Prop} {M : jm} (hI_M : RI M) (hH_M : RH M) (hS_M : RF M) {w : Int} (h_w : (-2147483648) ≤ w ∧ w ≤ 2147483647) {s : Int} (h_s : (-2147483648) ≤ s ∧ s ≤ 2147483647) (p0 : (w = 1 ∨ w = 17 ∨ (1 ≤ s ∧ s ≤ 10))) (q : ∀ (r : Int), 3 ≤ r ∧ r ≤ 200 → r = lvf w s → Q (some (.int (Int32.ofInt r))) M) : jc A 1 306 [.int (Int32.ofInt (w)), .int (Int32.ofInt (s))] M Q := by
  refine jc_of (m := xm_306) rfl (Nat.le_of_ble_eq_true rfl) rfl ?_
  refine jr.iload_n rfl rfl ?_
  refine jr.iconst rfl ?_
  refine jr.icmp_ne rfl rfl (by first | (refine rgb (by assumption) ?_; exact rfl) | omega) (rgl rfl) (fun h2 => ?_) (fun h2 => ?_)
  · refine jr.iload_n rfl rfl ?_
    refine jr.bipush rfl (jbp _ (nlt rfl)) ?_
    refine jr.icmp_ne rfl rfl (by first | (refine rgb (by assumption) ?_; exact rfl) | omega) (rgl rfl) (fun h10 => ?_) (fun h10 => ?_)
    · refine jr.iload_n rfl rfl ?_
      rcases (show s = 1 ∨ s = 2 ∨ s = 3 ∨ s = 4 ∨ s = 5 ∨ s = 6 ∨ s = 7 ∨ s = 8 ∨ s = 9 ∨ s = 10 ∨ (s ≠ 1 ∧ s ≠ 2 ∧ s ≠ 3 ∧ s ≠ 4 ∧ s ≠ 5 ∧ s ≠ 6 ∧ s ≠ 7 ∧ s ≠ 8 ∧ s ≠ 9 ∧ s ≠ 10) by omega) with h26 | h26 | h26 | h26 | h26 | h26 | h26 | h26 | h26 | h26 | h26
      · refine jr.tsw_k 1 rfl h26 rfl ?_
        refine jr.bipush rfl (jbp _ (nlt rfl)) ?_
        exact jr.ireturn rfl rfl rfl (q _ (by first | exact rgq rfl | omega) (by rw [lvf_o h2 h10, h26]; rfl))
      · refine jr.tsw_k 2 rfl h26 rfl ?_
        refine jr.bipush rfl (jbp _ (nlt rfl)) ?_
        exact jr.ireturn rfl rfl rfl (q _ (by first | exact rgq rfl | omega) (by rw [lvf_o h2 h10, h26]; rfl))
      · refine jr.tsw_k 3 rfl h26 rfl ?_
        refine jr.sipush rfl (by decide) ?_
        exact jr.ireturn rfl rfl rfl (q _ (by first | exact rgq rfl | omega) (by rw [lvf_o h2 h10, h26]; rfl))
      · refine jr.tsw_k 4 rfl h26 rfl ?_
        refine jr.bipush rfl (jbp _ (nlt rfl)) ?_
        exact jr.ireturn rfl rfl rfl (q _ (by first | exact rgq rfl | omega) (by rw [lvf_o h2 h10, h26]; rfl))
      · refine jr.tsw_k 5 rfl h26 rfl ?_
        refine jr.bipush rfl (jbp _ (nlt rfl)) ?_
        exact jr.ireturn rfl rfl rfl (q _ (by first | exact rgq rfl | omega) (by rw [lvf_o h2 h10, h26]; rfl))
      · refine jr.tsw_k 6 rfl h26 rfl ?_
        refine jr.bipush rfl (jbp _ (nlt rfl)) ?_
        exact jr.ireturn rfl rfl rfl (q _ (by first | exact rgq rfl | omega) (by rw [lvf_o h2 h10, h26]; rfl))
      · refine jr.tsw_k 7 rfl h26 rfl ?_
        refine jr.bipush rfl (jbp _ (nlt rfl)) ?_
        exact jr.ireturn rfl rfl rfl (q _ (by first | exact rgq rfl | omega) (by rw [lvf_o h2 h10, h26]; rfl))
      · refine jr.tsw_k 8 rfl h26 rfl ?_
        refine jr.bipush rfl (jbp _ (nlt rfl)) ?_
        exact jr.ireturn rfl rfl rfl (q _ (by first | exact rgq rfl | omega) (by rw [lvf_o h2 h10, h26]; rfl))
      · refine jr.tsw_k 9 rfl h26 rfl ?_
        refine jr.bipush rfl (jbp _ (nlt rfl)) ?_
        exact jr.ireturn rfl rfl rfl (q _ (by first | exact rgq rfl | omega) (by rw [lvf_o h2 h10, h26]; rfl))
      · refine jr.tsw_k 10 rfl h26 rfl ?_
        refine jr.iconst rfl ?_
        exact jr.ireturn rfl rfl rfl (q _ (by first | exact rgq rfl | omega) (by rw [lvf_o h2 h10, h26]; rfl))
      · refine jr.tsw_d rfl (by omega) (by omega) rfl ?_
        refine jr.bipush rfl (jbp _ (nlt rfl)) ?_
        exact jr.ireturn rfl rfl rfl (q _ (by first | exact rgq rfl | omega) (by unfold lvf; (repeat' split) <;> omega))
    · refine jr.iload_n rfl rfl ?_
      refine jr.if_ne rfl rfl (by first | (refine rgb (by assumption) ?_; exact rfl) | omega) (fun h14 => ?_) (fun h14 => ?_)
      · refine jr.bipush rfl (jbp _ (nlt rfl)) ?_
        exact jr.ireturn rfl rfl rfl (q _ (by first | exact rgq rfl | omega) (by unfold lvf; (repeat' split) <;> omega))
      · refine jr.bipush rfl (jbp _ (nlt rfl)) ?_
        refine jr.goto rfl rfl ?_
        exact jr.ireturn rfl rfl rfl (q _ (by first | exact rgq rfl | omega) (by unfold lvf; (repeat' split) <;> omega))
  · refine jr.iconst rfl ?_
    exact jr.ireturn rfl rfl rfl (q _ (by first | exact rgq rfl | omega) (by unfold lvf; (repeat' split) <;> omega))
theorem r_after_x {A : Nat → Option (Nat × (Nat → Int32))} {Q : Option Value → jm → Prop} {M : jm} (hI_M : RI M) (hH_M : RH M) (hS_M : RF M) {s : Int} (h_s : 1 ≤ s ∧ s ≤ 10) {b : Int} (h_b : 0 ≤ b ∧ b ≤ 1) {c : Int} (h_c : 0 ≤ c ∧ c ≤ 5) (q : ∀ (r : Int), 0 ≤ r ∧ r ≤ 10 → ((c = 5 ∧ r = 0) ∨ (c ≠ 5 ∧ r = M 647 (10 * (s - 1) + 5 * b + c))) → Q (some (.int (Int32.ofInt r))) M) : jc A 1 308 [.ref (598), .int (Int32.ofInt (s)), .int (Int32.ofInt (b)), .int (Int32.ofInt (c))] M Q := by
  refine jc_of (m := xm_308) rfl (Nat.le_of_ble_eq_true rfl) rfl ?_
  refine jr.iload_n rfl rfl ?_
  refine jr.iconst rfl ?_
  refine jr.icmp_ne rfl rfl (by first | (refine rgb (by assumption) ?_; exact rfl) | omega) (rgl rfl) (fun h2 => ?_) (fun h2 => ?_)
  · have sx2 : c ≤ (4 : Int) := by omega
    clear h2
    refine jr.aload_n rfl rfl ?_
    refine jr.getf (i := 67) (v := .ref 647) rfl rfl (nlt rfl) rfl (nlt rfl) rfl rfl rfl rfl ?_
    refine jr.bipush rfl (jbp _ (nlt rfl)) ?_
    refine jr.iload_n rfl rfl ?_
    refine jr.iconst rfl ?_
    refine jr.isub rfl ?_
    refine jr.imul rfl ?_
    refine jr.iconst rfl ?_
    refine jr.iload_n rfl rfl ?_
    refine jr.imul rfl ?_
    refine jr.iadd rfl ?_
    refine jr.iload_n rfl rfl ?_
    refine jr.iadd rfl ?_
    obtain ⟨v1, e1⟩ : ∃ z, M 647 (((10 * (s - 1)) + (5 * b)) + c) = z := ⟨_, rfl⟩
    have b1 : 0 ≤ v1 ∧ v1 ≤ 10 := by rw [← e1]; exact (by have q := hI_M 647 (((10 * (s - 1)) + (5 * b)) + c) (by decide); rw [xri_row rfl rfl] at q; exact q)
    refine jr.iald (i := (((10 * (s - 1)) + (5 * b)) + c)) (x := v1) rfl (nlt rfl) rfl (Nat.le_of_ble_eq_true rfl) (by omega) (by omega) e1 ?_
    exact jr.ireturn rfl rfl rfl (q _ (by omega) (by omega))
  · refine jr.iconst rfl ?_
    refine jr.goto rfl rfl ?_
    exact jr.ireturn rfl rfl rfl (q _ (by first | exact rgq rfl | omega) (by omega))
theorem r_gathered_x {A : Nat → Option (Nat × (Nat → Int32))} {Q : Option Value → jm → Prop} {M : jm} (hI_M : RI M) (hH_M : RH M) (hS_M : RF M) {w : Int} (h_w : (-2147483648) ≤ w ∧ w ≤ 2147483647) (q : ∀ (r : Int) (M' : jm), RI M' → RH M' → RF M' → (-3) ≤ r ∧ r ≤ 720 → (((0 ≤ w ∧ w ≤ 4) ∧ ((M 598 34 = 0 ∧ r = -1) ∨ (M 598 34 ≠ 0 ∧ r = M 622 w))) ∨ ((w < 0 ∨ 4 < w) ∧ r = -3)) → M' = M → (∀ (a : Nat) (i : Int), a ≠ 598 → M' a i = M a i) → (∀ (i : Int), i ≠ 1 → M' 598 i = M 598 i) → Q (some (.int (Int32.ofInt r))) M') : jc A 2 297 [.ref (598), .int (Int32.ofInt (w))] M Q := by
  refine jc_of (m := xm_297) rfl (Nat.le_of_ble_eq_true rfl) rfl ?_
  refine jr.iload_n rfl rfl ?_
  refine jr.i2l rfl (by omega) ?_
  refine jr.lconst (x := 0) rfl (by decide) ?_
  refine jr.ldc2 (x := 4) rfl rfl (by decide) ?_
  refine jr_s rfl rfl (Or.inl rfl) ⟨Nat.le_of_ble_eq_true rfl, Nat.le_of_ble_eq_true rfl⟩ rfl rfl (jc.deep (c_within (by omega) (by omega) (by omega) (fun l6 u6 => ?_) (fun n6 => ?_)) (Nat.le_of_ble_eq_true rfl))
  · refine jr.if_ne rfl rfl (by first | exact rgl rfl | omega) (fun _ => ?_) (fun h => absurd (by decide) h)
    refine jr.aload_n rfl rfl ?_
    obtain ⟨v1, e1⟩ : ∃ z, M 598 34 = z := ⟨_, rfl⟩
    have b1 : 0 ≤ v1 ∧ v1 ≤ 1 := by rw [← e1]; exact hI_M 598 34 (Nat.le_of_ble_eq_true rfl)
    refine jr.getf (i := 34) (x := v1) (v := .int (Int32.ofInt (v1))) rfl rfl (nlt rfl) rfl (nlt rfl) rfl rfl e1 rfl ?_
    refine jr.if_eq rfl rfl (by first | (refine rgb (by assumption) ?_; exact rfl) | omega) (fun h19 => ?_) (fun h19 => ?_)
    · refine jr.iconst rfl ?_
      exact jr.ireturn rfl rfl rfl (q _ _ hI_M hH_M hS_M  (by first | exact rgq rfl | omega) (by omega) rfl (fun a i f598 => rfl) (fun i g1 => rfl))
    · have sx19 : (1 : Int) ≤ v1 := by omega
      clear h19
      refine jr.aload_n rfl rfl ?_
      refine jr.getf (i := 33) (v := .ref 622) rfl rfl (nlt rfl) rfl (nlt rfl) rfl rfl rfl rfl ?_
      refine jr.iload_n rfl rfl ?_
      obtain ⟨v2, e2⟩ : ∃ z, M 622 w = z := ⟨_, rfl⟩
      have b2 : (-1) ≤ v2 ∧ v2 ≤ 720 := by rw [← e2]; exact (by have q := hI_M 622 w (Nat.le_of_ble_eq_true rfl); rw [xri_row rfl rfl] at q; exact q)
      refine jr.iald (i := w) (x := v2) rfl (nlt rfl) rfl (Nat.le_of_ble_eq_true rfl) (by omega) (by omega) e2 ?_
      refine jr.goto rfl rfl ?_
      exact jr.ireturn rfl rfl rfl (q _ _ hI_M hH_M hS_M  (by omega) (by omega) rfl (fun a i f598 => rfl) (fun i g1 => rfl))
  · refine jr.if_ne rfl rfl (by first | exact rgl rfl | omega) (fun h => absurd h (by decide)) (fun _ => ?_)
    refine jr.bipush rfl (by decide) ?_
    exact jr.ireturn rfl rfl rfl (q _ _ hI_M hH_M hS_M  (by first | exact rgq rfl | omega) (by omega) rfl (fun a i f598 => rfl) (fun i g1 => rfl))
/-- sides below s have forgotten -/
noncomputable def FG6 (T M : jm) (f s : Int) : Prop := (∀ j : Int, 2 * f ≤ j → j < s → M 632 j = 0 ∧ M 633 j = 0 ∧ M 634 j = 0 ∧ M 635 j = 0 ∧ M 636 j = 0 ∧ M 637 j = 0) ∧ ∀ (b : Nat) (j : Int), (j < 2 * f ∨ s ≤ j) → M b j = T b j
theorem FG6.s {T M : jm} {f s : Int} (h : FG6 T M f s) (h0 : 2 * f ≤ s) : FG6 T (ju (ju (ju (ju (ju (ju M 632 s 0) 633 s 0) 634 s 0) 635 s 0) 636 s 0) 637 s 0) f (s + 1) := by
  refine ⟨fun j j0 j1 => ?_, fun b j hj => ?_⟩
  · by_cases e : j = s
    · subst e
      refine ⟨?_, ?_, ?_, ?_, ?_, ?_⟩
      · rw [ju_c _ _ (by decide), ju_c _ _ (by decide), ju_c _ _ (by decide), ju_c _ _ (by decide), ju_c _ _ (by decide), ju_same]
      · rw [ju_c _ _ (by decide), ju_c _ _ (by decide), ju_c _ _ (by decide), ju_c _ _ (by decide), ju_same]
      · rw [ju_c _ _ (by decide), ju_c _ _ (by decide), ju_c _ _ (by decide), ju_same]
      · rw [ju_c _ _ (by decide), ju_c _ _ (by decide), ju_same]
      · rw [ju_c _ _ (by decide), ju_same]
      · rw [ju_same]
    · simp only [ju_i _ _ e]
      exact h.1 j j0 (by omega)
  · have e : j ≠ s := by omega
    simp only [ju_i _ _ e]
    exact h.2 b j (by omega)
theorem r_forget_L4_x {A : Nat → Option (Nat × (Nat → Int32))} {Q : Option Value → jm → Prop} {M0 : jm} {f0 : Int} (q : ∀ (M' : jm), RI M' → RH M' → FG6 M0 M' f0 (2 * f0 + 2) → (∀ (a : Nat) (i : Int), a ≠ 632 → a ≠ 633 → a ≠ 634 → a ≠ 635 → a ≠ 636 → a ≠ 637 → M' a i = M0 a i) → Q none M') : ∀ (nM : Nat) (M : jm) (s : Int) (f : Int), RI M → RH M → (∀ (a : Nat) (i : Int), a ≠ 632 → a ≠ 633 → a ≠ 634 → a ≠ 635 → a ≠ 636 → a ≠ 637 → M a i = M0 a i) → 0 ≤ s ∧ s ≤ 48 → 0 ≤ f ∧ f ≤ 23 → 2 * f ≤ s → FG6 M0 M f s → s ≤ 2 * f + 2 → f = f0 → 48 - s ≤ nM → jr A 0 xm_309 4 [(2, .int (Int32.ofInt (s))), (1, .int (Int32.ofInt (f))), (0, .ref (598))] [] M Q := by
  intro nM
  induction nM using Nat.strongRecOn with
  | ind nM ih =>
    intro M s f hI_M hH_M hF_M h_s h_f hy0 hy1 hy2 hy3 hm
    subst hy3
    refine jr.iload_n rfl rfl ?_
    refine jr.iconst rfl ?_
    refine jr.iload_n rfl rfl ?_
    refine jr.imul rfl ?_
    refine jr.iconst rfl ?_
    refine jr.iadd rfl ?_
    refine jr.icmp_ge rfl rfl (by first | (refine rgb (by assumption) ?_; exact rfl) | omega) (by first | (refine rgb (by assumption) ?_; exact rfl) | omega) (fun h10 => ?_) (fun h10 => ?_)
    · exact jr.vreturn rfl rfl (q _ hI_M hH_M  (by have h9 := hy1; rw [show s = 2 * f + 2 from by omega] at h9; exact h9) (fun a i f632 f633 f634 f635 f636 f637 => (hF_M a i f632 f633 f634 f635 f636 f637)))
    · refine jr.aload_n rfl rfl ?_
      refine jr.getf (i := 44) (v := .ref 632) rfl rfl (nlt rfl) rfl (nlt rfl) rfl rfl rfl rfl ?_
      refine jr.iload_n rfl rfl ?_
      refine jr.iconst rfl ?_
      refine jr.zast (i := s) (x := 0) rfl (nlt rfl) rfl (Nat.le_of_ble_eq_true rfl) (by omega) (by omega) (j_zn (by omega)) ?_
      refine jr.aload_n rfl rfl ?_
      refine jr.getf (i := 45) (v := .ref 633) rfl rfl (nlt rfl) rfl (nlt rfl) rfl rfl rfl rfl ?_
      refine jr.iload_n rfl rfl ?_
      refine jr.iconst rfl ?_
      refine jr.iast (i := s) (x := 0) rfl (nlt rfl) rfl (Nat.le_of_ble_eq_true rfl) (by omega) (by omega) ?_
      refine jr.aload_n rfl rfl ?_
      refine jr.getf (i := 46) (v := .ref 634) rfl rfl (nlt rfl) rfl (nlt rfl) rfl rfl rfl rfl ?_
      refine jr.iload_n rfl rfl ?_
      refine jr.iconst rfl ?_
      refine jr.zast (i := s) (x := 0) rfl (nlt rfl) rfl (Nat.le_of_ble_eq_true rfl) (by omega) (by omega) (j_zn (by omega)) ?_
      refine jr.aload_n rfl rfl ?_
      refine jr.getf (i := 47) (v := .ref 635) rfl rfl (nlt rfl) rfl (nlt rfl) rfl rfl rfl rfl ?_
      refine jr.iload_n rfl rfl ?_
      refine jr.iconst rfl ?_
      refine jr.iast (i := s) (x := 0) rfl (nlt rfl) rfl (Nat.le_of_ble_eq_true rfl) (by omega) (by omega) ?_
      refine jr.aload_n rfl rfl ?_
      refine jr.getf (i := 48) (v := .ref 636) rfl rfl (nlt rfl) rfl (nlt rfl) rfl rfl rfl rfl ?_
      refine jr.iload_n rfl rfl ?_
      refine jr.lconst (x := 0) rfl (by decide) ?_
      refine jr.last (i := s) (x := 0) rfl (nlt rfl) rfl (Nat.le_of_ble_eq_true rfl) (by omega) (by omega) ?_
      refine jr.aload_n rfl rfl ?_
      refine jr.getf (i := 49) (v := .ref 637) rfl rfl (nlt rfl) rfl (nlt rfl) rfl rfl rfl rfl ?_
      refine jr.iload_n rfl rfl ?_
      refine jr.lconst (x := 0) rfl (by decide) ?_
      refine jr.last (i := s) (x := 0) rfl (nlt rfl) rfl (Nat.le_of_ble_eq_true rfl) (by omega) (by omega) ?_
      refine jr.iinc (ls' := [_, _, _]) rfl rfl (nlt rfl) rfl ?_
      refine jr.goto rfl rfl ?_
      refine jr.pick (ls := [_, _, _]) [0, 1, 2] rfl rfl ?_
      exact ih (nM - 1) (by omega) (ju (ju (ju (ju (ju (ju M 632 s 0) 633 s 0) 634 s 0) 635 s 0) 636 s 0) 637 s 0) (s + 1) f (RI.u (RI.u (RI.u (RI.u (RI.u (RI.u hI_M (a := 632) (i := s) (by rw [xri_row rfl rfl]; show (0 : Int) ≤ _ ∧ _ ≤ (1 : Int); omega)) (a := 633) (i := s) (by rw [xri_row rfl rfl]; show (-2147483648 : Int) ≤ _ ∧ _ ≤ (2147483647 : Int); omega)) (a := 634) (i := s) (by rw [xri_row rfl rfl]; show (0 : Int) ≤ _ ∧ _ ≤ (1 : Int); omega)) (a := 635) (i := s) (by rw [xri_row rfl rfl]; show (0 : Int) ≤ _ ∧ _ ≤ (65535 : Int); omega)) (a := 636) (i := s) (by rw [xri_row rfl rfl]; show (-9223372036854775808 : Int) ≤ _ ∧ _ ≤ (9223372036854775807 : Int); omega)) (a := 637) (i := s) (by rw [xri_row rfl rfl]; show (-9223372036854775808 : Int) ≤ _ ∧ _ ≤ (9223372036854775807 : Int); omega)) (RH.o (RH.o (RH.o (RH.o (RH.o (RH.o hH_M (by decide) (by decide) (by decide)) (by decide) (by decide) (by decide)) (by decide) (by decide) (by decide)) (by decide) (by decide) (by decide)) (by decide) (by decide) (by decide)) (by decide) (by decide) (by decide))  (fun a i f632 f633 f634 f635 f636 f637 => ((ju_c _ _ f637).trans ((ju_c _ _ f636).trans ((ju_c _ _ f635).trans ((ju_c _ _ f634).trans ((ju_c _ _ f633).trans ((ju_c _ _ f632).trans (hF_M a i f632 f633 f634 f635 f636 f637)))))))) (by omega) (by omega) (by omega) (FG6.s hy1 (by omega)) (by omega) (by omega) (by omega)
theorem r_forget_x {A : Nat → Option (Nat × (Nat → Int32))} {Q : Option Value → jm → Prop} {M : jm} (hI_M : RI M) (hH_M : RH M) {f : Int} (h_f : 0 ≤ f ∧ f ≤ 23) (q : ∀ (M' : jm), RI M' → RH M' → FG6 M M' f (2 * f + 2) → (∀ (a : Nat) (i : Int), a ≠ 632 → a ≠ 633 → a ≠ 634 → a ≠ 635 → a ≠ 636 → a ≠ 637 → M' a i = M a i) → Q none M') : jc A 1 309 [.ref (598), .int (Int32.ofInt (f))] M Q := by
  refine jc_of (m := xm_309) rfl (Nat.le_of_ble_eq_true rfl) rfl ?_
  refine jr.iconst rfl ?_
  refine jr.iload_n rfl rfl ?_
  refine jr.imul rfl ?_
  refine jr.istore_n (ls' := [_, _, _]) rfl (nlt rfl) rfl ?_
  refine jr.pick (ls := [_, _, _]) [0, 2, 1] rfl rfl ?_
  exact r_forget_L4_x q 48 M (2 * f) f hI_M hH_M  (fun a i f632 f633 f634 f635 f636 f637 => rfl) (by omega) (by omega) (by omega) ⟨fun j j0 j1 => absurd j1 (by omega), fun _ _ _ => rfl⟩ (by omega) (by omega) (by omega)
end
section
/-! ===== the class: spans, a flow begins ===== -/
noncomputable def ioF (M : jm) (t : Nat) (s q n : Int) : Int := if M (t + 4) s = 0 then 0 else if j_w (q - M (t + 3) s) < -66000 ∨ ((s = 1 ∨ M t 12 ≠ 0) ∧ M (t + 5) (1 - s) < j_w (j_w (q + n) - M (t + 3) s)) then 1 else 0
theorem io_0 {M : jm} {t : Nat} {s q n : Int} (h : M (t + 4) s = 0) : ioF M t s q n = 0 := by
  unfold ioF
  rw [if_pos h]
theorem io_1 {M : jm} {t : Nat} {s q n l w : Int} (h : M (t + 4) s ≠ 0) (hl : M (t + 3) s = l) (hw : M (t + 5) (1 - s) = w) (h1 : j_w (q - l) < -66000 ∨ ((s = 1 ∨ M t 12 ≠ 0) ∧ w < j_w (j_w (q + n) - l))) : ioF M t s q n = 1 := by
  unfold ioF
  rw [if_neg h, hl, hw, if_pos h1]
theorem io_2 {M : jm} {t : Nat} {s q n l w : Int} (h : M (t + 4) s ≠ 0) (hl : M (t + 3) s = l) (hw : M (t + 5) (1 - s) = w) (h1 : ¬ (j_w (q - l) < -66000 ∨ ((s = 1 ∨ M t 12 ≠ 0) ∧ w < j_w (j_w (q + n) - l)))) : ioF M t s q n = 0 := by
  unfold ioF
  rw [if_neg h, hl, hw, if_neg h1]
theorem c_Flow_isOut_x {A : Nat → Option (Nat × (Nat → Int32))} {Q : Option Value → jm → Prop} {M : jm} (hC_M : CI M) {t : Nat} (k_t : kd t = 1) {x : Int} (h_x : 0 ≤ x ∧ x ≤ 1) {y : Int} (h_y : (-2147483648) ≤ y ∧ y ≤ 2147483647) {z : Int} (h_z : (-2147483648) ≤ z ∧ z ≤ 2147483647) (q : ∀ (r : Int), 0 ≤ r ∧ r ≤ 1 → (r = ioF M t x y z) → Q (some (.int (Int32.ofInt r))) M) : jc A 1 72 [.ref (t), .int (Int32.ofInt (x)), .int (Int32.ofInt (y)), .int (Int32.ofInt (z))] M Q := by
  refine jc_of (m := xm_72) rfl (Nat.le_of_ble_eq_true rfl) rfl ?_
  refine jr.aload_n rfl rfl ?_
  have k1 := kf_1_8 k_t
  refine jr.getf (i := 8) (v := .ref (t + 4)) rfl rfl (Nat.lt_trans (kx_1 k_t).1 (by decide)) (kx_1 k_t).2 (by decide) rfl rfl rfl (jval_ref rfl k1.1) ?_
  refine jr.iload_n rfl rfl ?_
  obtain ⟨v2, e2⟩ : ∃ z_, M ((t + 4)) x = z_ := ⟨_, rfl⟩
  have b2 : 0 ≤ v2 ∧ v2 ≤ 1 := by rw [← e2]; exact (CI.r hC_M k1.2 (by decide) x)
  refine jr.zald (i := x) (x := v2) rfl (Nat.lt_trans (kx_4 k1.2).1 (by decide)) (kx_4 k1.2).2 (by decide) (by omega) (by omega) e2 ?_
  refine jr.if_ne rfl rfl (by first | (refine rgb (by assumption) ?_; exact rfl) | omega) (fun h6 => ?_) (fun h6 => ?_)
  · have sx6 : (1 : Int) ≤ v2 := by omega
    clear h6
    refine jr.iload_n rfl rfl ?_
    refine jr.iconst rfl ?_
    refine jr.icmp_eq rfl rfl (by first | (refine rgb (by assumption) ?_; exact rfl) | omega) (rgl rfl) (fun h13 => ?_) (fun h13 => ?_)
    · refine jr.iconst rfl ?_
      refine jr.goto rfl rfl ?_
      refine jr.istore (ls' := [_, _, _, _, _]) rfl (nlt rfl) rfl ?_
      refine jr.iload_n rfl rfl ?_
      refine jr.aload_n rfl rfl ?_
      have k3 := kf_1_7 k_t
      refine jr.getf (i := 7) (v := .ref (t + 3)) rfl rfl (Nat.lt_trans (kx_1 k_t).1 (by decide)) (kx_1 k_t).2 (by decide) rfl rfl rfl (jval_ref rfl k3.1) ?_
      refine jr.iload_n rfl rfl ?_
      obtain ⟨v4, e4⟩ : ∃ z_, M ((t + 3)) x = z_ := ⟨_, rfl⟩
      have b4 : (-2147483648) ≤ v4 ∧ v4 ≤ 2147483647 := by rw [← e4]; exact (CI.r hC_M k3.2 (by decide) x)
      refine jr.iald (i := x) (x := v4) rfl (Nat.lt_trans (kx_5 k3.2).1 (by decide)) (kx_5 k3.2).2 (by decide) (by omega) (by omega) e4 ?_
      refine jr.isub rfl ?_
      refine jr.iw (j_w (y - v4)) (j_w_eq _) ?_
      have b5 : -2147483648 ≤ j_w (y - v4) ∧ j_w (y - v4) ≤ 2147483647 := jb_any _
      refine jr.ldc (x := (-66000)) rfl rfl (by decide) ?_
      refine jr.icmp_lt rfl rfl (by first | (refine rgb (by assumption) ?_; exact rfl) | omega) (by first | (refine rgb (by assumption) ?_; exact rfl) | omega) (fun h40 => ?_) (fun h40 => ?_)
      · refine jr.iconst rfl ?_
        refine jr.goto rfl rfl ?_
        exact jr.ireturn rfl rfl rfl (q _ (by first | exact rgq rfl | omega) (by rw [io_1 (by omega) e4 rfl (by first | (left; omega) | (right; omega))]))
      · refine jr.iload rfl rfl ?_
        refine jr.if_eq rfl rfl (by first | exact rgl rfl | omega) (fun h => absurd h (by decide)) (fun _ => ?_)
        refine jr.iload_n rfl rfl ?_
        refine jr.iload_n rfl rfl ?_
        refine jr.iadd rfl ?_
        refine jr.iw (j_w (y + z)) (j_w_eq _) ?_
        have b6 : -2147483648 ≤ j_w (y + z) ∧ j_w (y + z) ≤ 2147483647 := jb_any _
        refine jr.aload_n rfl rfl ?_
        have k7 := kf_1_7 k_t
        refine jr.getf (i := 7) (v := .ref (t + 3)) rfl rfl (Nat.lt_trans (kx_1 k_t).1 (by decide)) (kx_1 k_t).2 (by decide) rfl rfl rfl (jval_ref rfl k7.1) ?_
        refine jr.iload_n rfl rfl ?_
        refine jr.iald (i := x) (x := v4) rfl (Nat.lt_trans (kx_5 k7.2).1 (by decide)) (kx_5 k7.2).2 (by decide) (by omega) (by omega) e4 ?_
        refine jr.isub rfl ?_
        refine jr.iw (j_w ((j_w (y + z)) - v4)) (j_w_eq _) ?_
        have b8 : -2147483648 ≤ j_w ((j_w (y + z)) - v4) ∧ j_w ((j_w (y + z)) - v4) ≤ 2147483647 := jb_any _
        refine jr.aload_n rfl rfl ?_
        have k9 := kf_1_9 k_t
        refine jr.getf (i := 9) (v := .ref (t + 5)) rfl rfl (Nat.lt_trans (kx_1 k_t).1 (by decide)) (kx_1 k_t).2 (by decide) rfl rfl rfl (jval_ref rfl k9.1) ?_
        refine jr.iconst rfl ?_
        refine jr.iload_n rfl rfl ?_
        refine jr.isub rfl ?_
        obtain ⟨v10, e10⟩ : ∃ z_, M ((t + 5)) (1 - x) = z_ := ⟨_, rfl⟩
        have b10 : (-2147483648) ≤ v10 ∧ v10 ≤ 2147483647 := by rw [← e10]; exact (CI.r hC_M k9.2 (by decide) (1 - x))
        refine jr.iald (i := (1 - x)) (x := v10) rfl (Nat.lt_trans (kx_8 k9.2).1 (by decide)) (kx_8 k9.2).2 (by decide) (by omega) (by omega) e10 ?_
        refine jr.icmp_le rfl rfl (by first | (refine rgb (by assumption) ?_; exact rfl) | omega) (by first | (refine rgb (by assumption) ?_; exact rfl) | omega) (fun h66 => ?_) (fun h66 => ?_)
        · refine jr.iconst rfl ?_
          exact jr.ireturn rfl rfl rfl (q _ (by first | exact rgq rfl | omega) (by rw [io_2 (by omega) e4 e10 (by omega)]))
        · refine jr.iconst rfl ?_
          refine jr.goto rfl rfl ?_
          exact jr.ireturn rfl rfl rfl (q _ (by first | exact rgq rfl | omega) (by rw [io_1 (by omega) e4 e10 (by first | (left; omega) | (right; omega))]))
    · have sx13 : x ≤ (0 : Int) := by omega
      clear h13
      refine jr.aload_n rfl rfl ?_
      obtain ⟨v11, e11⟩ : ∃ z_, M t 12 = z_ := ⟨_, rfl⟩
      have b11 : 0 ≤ v11 ∧ v11 ≤ 1 := by rw [← e11]; exact (CI.r hC_M k_t (by decide) 12)
      refine jr.getf (i := 12) (x := v11) (v := .int (Int32.ofInt (v11))) rfl rfl (Nat.lt_trans (kx_1 k_t).1 (by decide)) (kx_1 k_t).2 (by decide) rfl rfl e11 rfl ?_
      refine jr.if_eq rfl rfl (by first | (refine rgb (by assumption) ?_; exact rfl) | omega) (fun h20 => ?_) (fun h20 => ?_)
      · refine jr.iconst rfl ?_
        refine jr.istore (ls' := [_, _, _, _, _]) rfl (nlt rfl) rfl ?_
        refine jr.iload_n rfl rfl ?_
        refine jr.aload_n rfl rfl ?_
        have k12 := kf_1_7 k_t
        refine jr.getf (i := 7) (v := .ref (t + 3)) rfl rfl (Nat.lt_trans (kx_1 k_t).1 (by decide)) (kx_1 k_t).2 (by decide) rfl rfl rfl (jval_ref rfl k12.1) ?_
        refine jr.iload_n rfl rfl ?_
        obtain ⟨v13, e13⟩ : ∃ z_, M ((t + 3)) x = z_ := ⟨_, rfl⟩
        have b13 : (-2147483648) ≤ v13 ∧ v13 ≤ 2147483647 := by rw [← e13]; exact (CI.r hC_M k12.2 (by decide) x)
        refine jr.iald (i := x) (x := v13) rfl (Nat.lt_trans (kx_5 k12.2).1 (by decide)) (kx_5 k12.2).2 (by decide) (by omega) (by omega) e13 ?_
        refine jr.isub rfl ?_
        refine jr.iw (j_w (y - v13)) (j_w_eq _) ?_
        have b14 : -2147483648 ≤ j_w (y - v13) ∧ j_w (y - v13) ≤ 2147483647 := jb_any _
        refine jr.ldc (x := (-66000)) rfl rfl (by decide) ?_
        refine jr.icmp_lt rfl rfl (by first | (refine rgb (by assumption) ?_; exact rfl) | omega) (by first | (refine rgb (by assumption) ?_; exact rfl) | omega) (fun h40 => ?_) (fun h40 => ?_)
        · refine jr.iconst rfl ?_
          refine jr.goto rfl rfl ?_
          exact jr.ireturn rfl rfl rfl (q _ (by first | exact rgq rfl | omega) (by rw [io_1 (by omega) e13 rfl (by first | (left; omega) | (right; omega))]))
        · refine jr.iload rfl rfl ?_
          refine jr.if_eq rfl rfl (by first | exact rgl rfl | omega) (fun _ => ?_) (fun h => absurd (by decide) h)
          refine jr.iconst rfl ?_
          exact jr.ireturn rfl rfl rfl (q _ (by first | exact rgq rfl | omega) (by rw [io_2 (by omega) e13 rfl (by omega)]))
      · have sx20 : (1 : Int) ≤ v11 := by omega
        clear h20
        refine jr.iconst rfl ?_
        refine jr.goto rfl rfl ?_
        refine jr.istore (ls' := [_, _, _, _, _]) rfl (nlt rfl) rfl ?_
        refine jr.iload_n rfl rfl ?_
        refine jr.aload_n rfl rfl ?_
        have k15 := kf_1_7 k_t
        refine jr.getf (i := 7) (v := .ref (t + 3)) rfl rfl (Nat.lt_trans (kx_1 k_t).1 (by decide)) (kx_1 k_t).2 (by decide) rfl rfl rfl (jval_ref rfl k15.1) ?_
        refine jr.iload_n rfl rfl ?_
        obtain ⟨v16, e16⟩ : ∃ z_, M ((t + 3)) x = z_ := ⟨_, rfl⟩
        have b16 : (-2147483648) ≤ v16 ∧ v16 ≤ 2147483647 := by rw [← e16]; exact (CI.r hC_M k15.2 (by decide) x)
        refine jr.iald (i := x) (x := v16) rfl (Nat.lt_trans (kx_5 k15.2).1 (by decide)) (kx_5 k15.2).2 (by decide) (by omega) (by omega) e16 ?_
        refine jr.isub rfl ?_
        refine jr.iw (j_w (y - v16)) (j_w_eq _) ?_
        have b17 : -2147483648 ≤ j_w (y - v16) ∧ j_w (y - v16) ≤ 2147483647 := jb_any _
        refine jr.ldc (x := (-66000)) rfl rfl (by decide) ?_
        refine jr.icmp_lt rfl rfl (by first | (refine rgb (by assumption) ?_; exact rfl) | omega) (by first | (refine rgb (by assumption) ?_; exact rfl) | omega) (fun h40 => ?_) (fun h40 => ?_)
        · refine jr.iconst rfl ?_
          refine jr.goto rfl rfl ?_
          exact jr.ireturn rfl rfl rfl (q _ (by first | exact rgq rfl | omega) (by rw [io_1 (by omega) e16 rfl (by first | (left; omega) | (right; omega))]))
        · refine jr.iload rfl rfl ?_
          refine jr.if_eq rfl rfl (by first | exact rgl rfl | omega) (fun h => absurd h (by decide)) (fun _ => ?_)
          refine jr.iload_n rfl rfl ?_
          refine jr.iload_n rfl rfl ?_
          refine jr.iadd rfl ?_
          refine jr.iw (j_w (y + z)) (j_w_eq _) ?_
          have b18 : -2147483648 ≤ j_w (y + z) ∧ j_w (y + z) ≤ 2147483647 := jb_any _
          refine jr.aload_n rfl rfl ?_
          have k19 := kf_1_7 k_t
          refine jr.getf (i := 7) (v := .ref (t + 3)) rfl rfl (Nat.lt_trans (kx_1 k_t).1 (by decide)) (kx_1 k_t).2 (by decide) rfl rfl rfl (jval_ref rfl k19.1) ?_
          refine jr.iload_n rfl rfl ?_
          refine jr.iald (i := x) (x := v16) rfl (Nat.lt_trans (kx_5 k19.2).1 (by decide)) (kx_5 k19.2).2 (by decide) (by omega) (by omega) e16 ?_
          refine jr.isub rfl ?_
          refine jr.iw (j_w ((j_w (y + z)) - v16)) (j_w_eq _) ?_
          have b20 : -2147483648 ≤ j_w ((j_w (y + z)) - v16) ∧ j_w ((j_w (y + z)) - v16) ≤ 2147483647 := jb_any _
          refine jr.aload_n rfl rfl ?_
          have k21 := kf_1_9 k_t
          refine jr.getf (i := 9) (v := .ref (t + 5)) rfl rfl (Nat.lt_trans (kx_1 k_t).1 (by decide)) (kx_1 k_t).2 (by decide) rfl rfl rfl (jval_ref rfl k21.1) ?_
          refine jr.iconst rfl ?_
          refine jr.iload_n rfl rfl ?_
          refine jr.isub rfl ?_
          obtain ⟨v22, e22⟩ : ∃ z_, M ((t + 5)) (1 - x) = z_ := ⟨_, rfl⟩
          have b22 : (-2147483648) ≤ v22 ∧ v22 ≤ 2147483647 := by rw [← e22]; exact (CI.r hC_M k21.2 (by decide) (1 - x))
          refine jr.iald (i := (1 - x)) (x := v22) rfl (Nat.lt_trans (kx_8 k21.2).1 (by decide)) (kx_8 k21.2).2 (by decide) (by omega) (by omega) e22 ?_
          refine jr.icmp_le rfl rfl (by first | (refine rgb (by assumption) ?_; exact rfl) | omega) (by first | (refine rgb (by assumption) ?_; exact rfl) | omega) (fun h66 => ?_) (fun h66 => ?_)
          · refine jr.iconst rfl ?_
            exact jr.ireturn rfl rfl rfl (q _ (by first | exact rgq rfl | omega) (by rw [io_2 (by omega) e16 e22 (by omega)]))
          · refine jr.iconst rfl ?_
            refine jr.goto rfl rfl ?_
            exact jr.ireturn rfl rfl rfl (q _ (by first | exact rgq rfl | omega) (by rw [io_1 (by omega) e16 e22 (by first | (left; omega) | (right; omega))]))
  · refine jr.iconst rfl ?_
    exact jr.ireturn rfl rfl rfl (q _ (by first | exact rgq rfl | omega) (by rw [io_0 (by omega)]))
noncomputable def BGE (T M : jm) (t : Nat) (i : Int) : Prop := (M t 0 = 1 ∧ M t 1 = T 18 1 ∧ M t 2 = T 18 2) ∧ (∀ s : Int, 0 ≤ s → s < i → M (t + 1) s = T 19 s ∧ M (t + 2) s = T 20 s) ∧ (∀ k : Int, k ≠ 0 → k ≠ 1 → k ≠ 2 → M t k = T t k) ∧ ∀ (b : Nat) (k : Int), b ≠ t → b ≠ t + 1 → b ≠ t + 2 → M b k = T b k
theorem BGE.s {T M : jm} {t : Nat} {i a v : Int} (h : BGE T M t i) (h0 : 0 ≤ i) (ha : a = T 19 i) (hv : v = T 20 i) : BGE T (ju (ju M (t + 1) i a) (t + 2) i v) t (i + 1) := by
  obtain ⟨h1, h2, h3, h4⟩ := h
  refine ⟨?_, fun s s0 s1 => ?_, fun k k0 k1 k2 => ?_, fun b k b0 b1 b2 => ?_⟩
  · simp only [ju_c _ _ (show t ≠ t + 2 by omega), ju_c _ _ (show t ≠ t + 1 by omega)]; exact h1
  · by_cases e : s = i
    · subst e
      rw [ju_c _ _ (show t + 1 ≠ t + 2 by omega), ju_same, ju_same]
      exact ⟨ha, hv⟩
    · rw [ju_c _ _ (show t + 1 ≠ t + 2 by omega), ju_i _ _ e, ju_i _ _ e, ju_c _ _ (show t + 2 ≠ t + 1 by omega)]
      exact h2 s s0 (by omega)
  · rw [ju_c _ _ (show t ≠ t + 2 by omega), ju_c _ _ (show t ≠ t + 1 by omega)]; exact h3 k k0 k1 k2
  · rw [ju_c _ _ b2, ju_c _ _ b1]; exact h4 b k b0 b1 b2
/-- a flow that begins with the ends -/
noncomputable def BGN (T M : jm) (t : Nat) : Prop := (M t 0 = 1 ∧ M t 1 = T 18 1 ∧ M t 2 = T 18 2 ∧ M t 5 = (if T 18 2 = 6 then 1 else 0) ∧ M t 13 = -1 ∧ M t 15 = -1 ∧ M t 12 = 0) ∧ (∀ s : Int, 0 ≤ s → s < 2 → (M (t + 1) s = T 19 s ∧ M (t + 2) s = T 20 s) ∧ M (t + 3) s = 0 ∧ M (t + 4) s = 0 ∧ M (t + 5) s = 0 ∧ M (t + 6) s = 0 ∧ M (t + 7) s = 0) ∧ (M t 6 = T t 6 ∧ M t 14 = T t 14) ∧ ∀ (b : Nat) (k : Int), b ≠ t → b ≠ t + 1 → b ≠ t + 2 → b ≠ t + 3 → b ≠ t + 4 → b ≠ t + 5 → b ≠ t + 6 → b ≠ t + 7 → M b k = T b k
theorem BGE.e {T M M2 : jm} {t : Nat} {v : Int} (h : BGE T M t 2) (hv : v = (if M t 2 = 6 then 1 else 0)) (w : FGT (ju (ju (ju M t 5 v) t 13 (-1)) t 15 (-1)) M2 t) : BGN T M2 t := by
  obtain ⟨h1, h2, h3, h4⟩ := h
  obtain ⟨w1, w2, w3, w4⟩ := w
  refine ⟨⟨?_, ?_, ?_, ?_, ?_, ?_, w2⟩, fun s s0 s1 => ⟨?_, w1 s s0 s1⟩, ⟨?_, ?_⟩, fun b k b0 b1 b2 b3 b4 b5 b6 b7 => ?_⟩
  · rw [w3 0 (by decide), ju_i _ _ (zne (by decide)), ju_i _ _ (zne (by decide)), ju_i _ _ (zne (by decide))]; exact h1.1
  · rw [w3 1 (by decide), ju_i _ _ (zne (by decide)), ju_i _ _ (zne (by decide)), ju_i _ _ (zne (by decide))]; exact h1.2.1
  · rw [w3 2 (by decide), ju_i _ _ (zne (by decide)), ju_i _ _ (zne (by decide)), ju_i _ _ (zne (by decide))]; exact h1.2.2
  · rw [w3 5 (by decide), ju_i _ _ (zne (by decide)), ju_i _ _ (zne (by decide)), ju_same, hv, h1.2.2]
  · rw [w3 13 (by decide), ju_i _ _ (zne (by decide)), ju_same]
  · rw [w3 15 (by decide), ju_same]
  · rw [w4 (t + 1) s (by omega) (by omega) (by omega) (by omega) (by omega) (by omega), w4 (t + 2) s (by omega) (by omega) (by omega) (by omega) (by omega) (by omega)]
    simp only [ju_c _ _ (show t + 1 ≠ t by omega), ju_c _ _ (show t + 2 ≠ t by omega)]
    exact h2 s s0 s1
  · rw [w3 6 (by decide), ju_i _ _ (zne (by decide)), ju_i _ _ (zne (by decide)), ju_i _ _ (zne (by decide))]; exact h3 6 (by decide) (by decide) (by decide)
  · rw [w3 14 (by decide), ju_i _ _ (zne (by decide)), ju_i _ _ (zne (by decide)), ju_i _ _ (zne (by decide))]; exact h3 14 (by decide) (by decide) (by decide)
  · rw [w4 b k b0 b3 b4 b5 b6 b7, ju_c _ _ b0, ju_c _ _ b0, ju_c _ _ b0]; exact h4 b k b0 b1 b2
noncomputable def W_c_Flow_beginAs_x : List (Nat × Nat) := [(1, 0), (1, 1), (1, 2), (1, 5), (1, 12), (1, 13), (1, 15), (2, 1000), (3, 1000), (4, 1000), (5, 1000), (6, 1000), (7, 1000), (8, 1000)]
theorem c_Flow_beginAs_x_L23 {A : Nat → Option (Nat × (Nat → Int32))} {Q : Option Value → jm → Prop} {T : jm} {t : Nat} (k_t : kd t = 1) (q : ∀ (M' : jm), CI M' → FR W_c_Flow_beginAs_x T M' → (BGN T M' t) → Q none M') : ∀ (nM : Nat) (M : jm) (i : Int), CI M → FR W_c_Flow_beginAs_x T M → 0 ≤ i ∧ i ≤ 2 → (BGE T M t i) → (t ≠ 18 ∧ t + 1 ≠ 20 ∧ t ≠ 19 ∧ t ≠ 20 ∧ t + 2 ≠ 19) → 2 - i ≤ nM → jr A 1 xm_58 23 [(2, .int (Int32.ofInt (i))), (0, .ref (t)), (1, .ref (18))] [] M Q := by
  intro nM
  induction nM using Nat.strongRecOn with
  | ind nM ih =>
    intro M i hC_M ht_M h_i hy0 hy1 hm
    refine jr.iload_n rfl rfl ?_
    refine jr.iconst rfl ?_
    refine jr.icmp_ge rfl rfl (by first | (refine rgb (by assumption) ?_; exact rfl) | omega) (rgl rfl) (fun h25 => ?_) (fun h25 => ?_)
    · refine jr.aload_n rfl rfl ?_
      refine jr.aload_n rfl rfl ?_
      obtain ⟨v1, e1⟩ : ∃ z_, M t 2 = z_ := ⟨_, rfl⟩
      have b1 : (-2147483648) ≤ v1 ∧ v1 ≤ 2147483647 := by rw [← e1]; exact (CI.r hC_M k_t (by decide) 2)
      refine jr.getf (i := 2) (x := v1) (v := .int (Int32.ofInt (v1))) rfl rfl (Nat.lt_trans (kx_1 k_t).1 (by decide)) (kx_1 k_t).2 (by decide) rfl rfl e1 rfl ?_
      refine jr.bipush rfl (jbp _ (nlt rfl)) ?_
      refine jr.icmp_ne rfl rfl (by first | (refine rgb (by assumption) ?_; exact rfl) | omega) (rgl rfl) (fun h65 => ?_) (fun h65 => ?_)
      · refine jr.iconst rfl ?_
        refine jr.putf (i := 5) (x := 0) rfl rfl (Nat.lt_trans (kx_1 k_t).1 (by decide)) (kx_1 k_t).2 (by decide) rfl rfl rfl rfl rfl ?_
        refine jr.aload_n rfl rfl ?_
        refine jr.iconst rfl ?_
        refine jr.putf (i := 13) (x := (-1)) rfl rfl (Nat.lt_trans (kx_1 k_t).1 (by decide)) (kx_1 k_t).2 (by decide) rfl rfl rfl rfl rfl ?_
        refine jr.aload_n rfl rfl ?_
        refine jr.iconst rfl ?_
        refine jr.putf (i := 15) (x := (-1)) rfl rfl (Nat.lt_trans (kx_1 k_t).1 (by decide)) (kx_1 k_t).2 (by decide) rfl rfl rfl rfl rfl ?_
        refine jr.aload_n rfl rfl ?_
        refine jr_v rfl rfl (Or.inl rfl) rfl rfl (Nat.lt_trans (kx_1 k_t).1 (by decide)) (kx_1 k_t).2 ⟨rfl, Nat.le_of_ble_eq_true rfl, Nat.le_of_ble_eq_true rfl⟩ rfl (jc.deep (c_Flow_forget_x (CI.u (CI.u (CI.u hC_M (i := 5) k_t (show (-2147483648 : Int) ≤ _ ∧ _ ≤ (2147483647 : Int) from by omega) rfl) (i := 13) k_t (show (-2147483648 : Int) ≤ _ ∧ _ ≤ (2147483647 : Int) from by omega) rfl) (i := 15) k_t (show (-2147483648 : Int) ≤ _ ∧ _ ≤ (2147483647 : Int) from by omega) rfl) (FR.rfl _ ((ju (ju (ju M t 5 0) t 13 (-1)) t 15 (-1)))) k_t rfl (fun M2 hC_M2 hf_M2 w2_0 => ?_)) (Nat.le_of_ble_eq_true rfl))
        have ht_M2 : FR W_c_Flow_beginAs_x T M2 := FR.t (FR.o (FR.o (FR.o ht_M k_t rfl) k_t rfl) k_t rfl) hf_M2 (kw_sub rfl)
        exact jr.vreturn rfl rfl (q _ hC_M2 ht_M2  (BGE.e (by have h9 := hy0; rw [show i = 2 from by omega] at h9; exact h9) (by first | (rw [if_pos (by omega)]) | (rw [if_neg (by omega)])) w2_0))
      · refine jr.iconst rfl ?_
        refine jr.goto rfl rfl ?_
        refine jr.putf (i := 5) (x := 1) rfl rfl (Nat.lt_trans (kx_1 k_t).1 (by decide)) (kx_1 k_t).2 (by decide) rfl rfl rfl rfl rfl ?_
        refine jr.aload_n rfl rfl ?_
        refine jr.iconst rfl ?_
        refine jr.putf (i := 13) (x := (-1)) rfl rfl (Nat.lt_trans (kx_1 k_t).1 (by decide)) (kx_1 k_t).2 (by decide) rfl rfl rfl rfl rfl ?_
        refine jr.aload_n rfl rfl ?_
        refine jr.iconst rfl ?_
        refine jr.putf (i := 15) (x := (-1)) rfl rfl (Nat.lt_trans (kx_1 k_t).1 (by decide)) (kx_1 k_t).2 (by decide) rfl rfl rfl rfl rfl ?_
        refine jr.aload_n rfl rfl ?_
        refine jr_v rfl rfl (Or.inl rfl) rfl rfl (Nat.lt_trans (kx_1 k_t).1 (by decide)) (kx_1 k_t).2 ⟨rfl, Nat.le_of_ble_eq_true rfl, Nat.le_of_ble_eq_true rfl⟩ rfl (jc.deep (c_Flow_forget_x (CI.u (CI.u (CI.u hC_M (i := 5) k_t (show (-2147483648 : Int) ≤ _ ∧ _ ≤ (2147483647 : Int) from by omega) rfl) (i := 13) k_t (show (-2147483648 : Int) ≤ _ ∧ _ ≤ (2147483647 : Int) from by omega) rfl) (i := 15) k_t (show (-2147483648 : Int) ≤ _ ∧ _ ≤ (2147483647 : Int) from by omega) rfl) (FR.rfl _ ((ju (ju (ju M t 5 1) t 13 (-1)) t 15 (-1)))) k_t rfl (fun M3 hC_M3 hf_M3 w3_0 => ?_)) (Nat.le_of_ble_eq_true rfl))
        have ht_M3 : FR W_c_Flow_beginAs_x T M3 := FR.t (FR.o (FR.o (FR.o ht_M k_t rfl) k_t rfl) k_t rfl) hf_M3 (kw_sub rfl)
        exact jr.vreturn rfl rfl (q _ hC_M3 ht_M3  (BGE.e (by have h9 := hy0; rw [show i = 2 from by omega] at h9; exact h9) (by first | (rw [if_pos (by omega)]) | (rw [if_neg (by omega)])) w3_0))
    · refine jr.aload_n rfl rfl ?_
      have k4 := kf_1_3 k_t
      refine jr.getf (i := 3) (v := .ref (t + 1)) rfl rfl (Nat.lt_trans (kx_1 k_t).1 (by decide)) (kx_1 k_t).2 (by decide) rfl rfl rfl (jval_ref rfl k4.1) ?_
      refine jr.iload_n rfl rfl ?_
      refine jr.aload_n rfl rfl ?_
      refine jr.getf (i := 3) (v := .ref 19) rfl rfl (nlt rfl) rfl (nlt rfl) rfl rfl rfl rfl ?_
      refine jr.iload_n rfl rfl ?_
      obtain ⟨v5, e5⟩ : ∃ z_, M 19 i = z_ := ⟨_, rfl⟩
      have b5 : (-9223372036854775808) ≤ v5 ∧ v5 ≤ 9223372036854775807 := by rw [← e5]; exact (CI.r hC_M (show kd 19 = 2 from rfl) (by decide) i)
      refine jr.lald (i := i) (x := v5) rfl (nlt rfl) rfl (Nat.le_of_ble_eq_true rfl) (by omega) (by omega) e5 ?_
      refine jr.last (i := i) (x := v5) rfl (Nat.lt_trans (kx_2 k4.2).1 (by decide)) (kx_2 k4.2).2 (by decide) (by omega) (by omega) ?_
      refine jr.aload_n rfl rfl ?_
      have k6 := kf_1_4 k_t
      refine jr.getf (i := 4) (v := .ref (t + 2)) rfl rfl (Nat.lt_trans (kx_1 k_t).1 (by decide)) (kx_1 k_t).2 (by decide) rfl rfl rfl (jval_ref rfl k6.1) ?_
      refine jr.iload_n rfl rfl ?_
      refine jr.aload_n rfl rfl ?_
      refine jr.getf (i := 4) (v := .ref 20) rfl rfl (nlt rfl) rfl (nlt rfl) rfl rfl rfl rfl ?_
      refine jr.iload_n rfl rfl ?_
      obtain ⟨v7, e7⟩ : ∃ z_, M 20 i = z_ := ⟨_, rfl⟩
      have b7 : (-2147483648) ≤ v7 ∧ v7 ≤ 2147483647 := by rw [← e7]; exact (CI.r hC_M (show kd 20 = 7 from rfl) (by decide) i)
      refine jr.iald (i := i) (x := v7) rfl (nlt rfl) rfl (Nat.le_of_ble_eq_true rfl) (by omega) (by omega) ((ju_c _ _ (kd_ne (by rw [(show kd 20 = 7 from rfl), k4.2]; decide))).trans e7) ?_
      refine jr.iast (i := i) (x := v7) rfl (Nat.lt_trans (kx_7 k6.2).1 (by decide)) (kx_7 k6.2).2 (by decide) (by omega) (by omega) ?_
      refine jr.iinc (ls' := [_, _, _]) rfl rfl (nlt rfl) rfl ?_
      refine jr.goto rfl rfl ?_
      refine jr.pick (ls := [_, _, _]) [0, 1, 2] rfl rfl ?_
      exact ih (nM - 1) (by omega) ((ju (ju M ((t + 1)) i v5) ((t + 2)) i v7)) (i + 1) (CI.u (CI.u hC_M (i := i) k4.2 (show (-9223372036854775808 : Int) ≤ _ ∧ _ ≤ (9223372036854775807 : Int) from by omega) rfl) (i := i) k6.2 (show (-2147483648 : Int) ≤ _ ∧ _ ≤ (2147483647 : Int) from by omega) rfl) (FR.o (FR.o ht_M k4.2 rfl) k6.2 rfl) (by omega) (BGE.s hy0 (by omega) (by rw [← hy0.2.2.2 19 i (by omega) (by omega) (by omega)]; exact (e5).symm) (by rw [← hy0.2.2.2 20 i (by omega) (by omega) (by omega)]; exact (e7).symm)) hy1 (by omega)
theorem c_Flow_beginAs_x {A : Nat → Option (Nat × (Nat → Int32))} {Q : Option Value → jm → Prop} {T : jm} {M : jm} (hC_M : CI M) (ht_M : FR W_c_Flow_beginAs_x T M) {t : Nat} (k_t : kd t = 1) (p0 : T = M) (p1 : t ≠ 18 ∧ t + 1 ≠ 20 ∧ t ≠ 19 ∧ t ≠ 20 ∧ t + 2 ≠ 19) (q : ∀ (M' : jm), CI M' → FR W_c_Flow_beginAs_x T M' → (BGN T M' t) → Q none M') : jc A 2 58 [.ref (t), .ref (18)] M Q := by
  refine jc_of (m := xm_58) rfl (Nat.le_of_ble_eq_true rfl) rfl ?_
  refine jr.aload_n rfl rfl ?_
  refine jr.iconst rfl ?_
  refine jr.putf (i := 0) (x := 1) rfl rfl (Nat.lt_trans (kx_1 k_t).1 (by decide)) (kx_1 k_t).2 (by decide) rfl rfl rfl rfl rfl ?_
  refine jr.aload_n rfl rfl ?_
  refine jr.aload_n rfl rfl ?_
  obtain ⟨v1, e1⟩ : ∃ z_, M 18 1 = z_ := ⟨_, rfl⟩
  have b1 : 0 ≤ v1 ∧ v1 ≤ 1 := by rw [← e1]; exact (CI.r hC_M (show kd 18 = 1 from rfl) (by decide) 1)
  refine jr.getf (i := 1) (x := v1) (v := .int (Int32.ofInt (v1))) rfl rfl (nlt rfl) rfl (nlt rfl) rfl rfl ((ju_i _ _ (zne (by decide))).trans e1) rfl ?_
  refine jr.putf (i := 1) (x := v1) rfl rfl (Nat.lt_trans (kx_1 k_t).1 (by decide)) (kx_1 k_t).2 (by decide) rfl rfl rfl (j_zr (by omega)) (j_fz (by omega)) ?_
  refine jr.aload_n rfl rfl ?_
  refine jr.aload_n rfl rfl ?_
  obtain ⟨v2, e2⟩ : ∃ z_, M 18 2 = z_ := ⟨_, rfl⟩
  have b2 : (-2147483648) ≤ v2 ∧ v2 ≤ 2147483647 := by rw [← e2]; exact (CI.r hC_M (show kd 18 = 1 from rfl) (by decide) 2)
  refine jr.getf (i := 2) (x := v2) (v := .int (Int32.ofInt (v2))) rfl rfl (nlt rfl) rfl (nlt rfl) rfl rfl ((ju_i _ _ (zne (by decide))).trans ((ju_i _ _ (zne (by decide))).trans e2)) rfl ?_
  refine jr.putf (i := 2) (x := v2) rfl rfl (Nat.lt_trans (kx_1 k_t).1 (by decide)) (kx_1 k_t).2 (by decide) rfl rfl rfl rfl rfl ?_
  refine jr.iconst rfl ?_
  refine jr.istore_n (ls' := [_, _, _]) rfl (nlt rfl) rfl ?_
  refine jr.pick (ls := [_, _, _]) [0, 1, 2] rfl rfl ?_
  exact c_Flow_beginAs_x_L23 k_t q 2 ((ju (ju (ju M t 0 1) t 1 v1) t 2 v2)) 0 (CI.u (CI.u (CI.u hC_M (i := 0) k_t (show (0 : Int) ≤ _ ∧ _ ≤ (1 : Int) from by omega) rfl) (i := 1) k_t (show (0 : Int) ≤ _ ∧ _ ≤ (1 : Int) from by omega) rfl) (i := 2) k_t (show (-2147483648 : Int) ≤ _ ∧ _ ≤ (2147483647 : Int) from by omega) rfl) (FR.o (FR.o (FR.o ht_M k_t rfl) k_t rfl) k_t rfl) (by omega) ⟨⟨(by rw [show (ju (ju (ju M t 0 1) t 1 v1) t 2 v2) t 0 = 1 from ((ju_i _ _ (zne (by decide))).trans ((ju_i _ _ (zne (by decide))).trans (ju_same _ _ _ _)))]), (by rw [show (ju (ju (ju M t 0 1) t 1 v1) t 2 v2) t 1 = v1 from ((ju_i _ _ (zne (by decide))).trans (ju_same _ _ _ _))]; rw [p0]; omega), (by rw [show (ju (ju (ju M t 0 1) t 1 v1) t 2 v2) t 2 = v2 from (ju_same _ _ _ _)]; rw [p0]; omega)⟩, fun s s0 s1 => absurd s1 (by omega), fun k k0 k1 k2 => by rw [ju_i _ _ k2, ju_i _ _ k1, ju_i _ _ k0, p0], fun b k b0 _ _ => by rw [ju_c _ _ b0, ju_c _ _ b0, ju_c _ _ b0, p0]⟩ p1 (by omega)
end
section
/-! ===== the reference: spans ===== -/
noncomputable def lg6 (M : jm) (x : Int) : Int := M 600 x - M 604 (M 598 65) - M 605 (M 598 65) + M 601 (400 * x + (M 604 (M 598 65) + 13)) / 2 % 2 + M 601 (400 * x + (M 604 (M 598 65) + 13)) % 2
noncomputable def sq6 (M : jm) (x : Int) : Int := j_w (nbs (rf M x) (M 604 (M 598 65) + 4) 4)
noncomputable def io6 (M : jm) (x f c : Int) : Int := if (c ≠ 2 ∧ c ≠ 4) ∨ M 632 (2 * f + M 598 66) = 0 then 0 else if j_w (sq6 M x - M 633 (2 * f + M 598 66)) < -66000 ∨ (M 634 (2 * f + 1 - M 598 66) ≠ 0 ∧ M 635 (2 * f + 1 - M 598 66) < j_w (j_w (sq6 M x + lg6 M x) - M 633 (2 * f + M 598 66))) then 1 else 0
theorem io6_0 {M : jm} {x f c : Int} (h : (c ≠ 2 ∧ c ≠ 4) ∨ M 632 (2 * f + M 598 66) = 0) : io6 M x f c = 0 := by
  unfold io6
  rw [if_pos h]
theorem io6_1 {M : jm} {x f c q n l : Int} (h : ¬ ((c ≠ 2 ∧ c ≠ 4) ∨ M 632 (2 * f + M 598 66) = 0)) (hq : sq6 M x = q) (hn : lg6 M x = n) (hl : M 633 (2 * f + M 598 66) = l) (h1 : j_w (q - l) < -66000 ∨ (M 634 (2 * f + 1 - M 598 66) ≠ 0 ∧ M 635 (2 * f + 1 - M 598 66) < j_w (j_w (q + n) - l))) : io6 M x f c = 1 := by
  unfold io6
  rw [if_neg h, hq, hn, hl, if_pos h1]
theorem io6_2 {M : jm} {x f c q n l : Int} (h : ¬ ((c ≠ 2 ∧ c ≠ 4) ∨ M 632 (2 * f + M 598 66) = 0)) (hq : sq6 M x = q) (hn : lg6 M x = n) (hl : M 633 (2 * f + M 598 66) = l) (h1 : ¬ (j_w (q - l) < -66000 ∨ (M 634 (2 * f + 1 - M 598 66) ≠ 0 ∧ M 635 (2 * f + 1 - M 598 66) < j_w (j_w (q + n) - l)))) : io6 M x f c = 0 := by
  unfold io6
  rw [if_neg h, hq, hn, hl, if_neg h1]
theorem r_longOf_x {A : Nat → Option (Nat × (Nat → Int32))} {Q : Option Value → jm → Prop} {M : jm} (hI_M : RI M) (hH_M : RH M) (hS_M : RF M) {x : Int} (h_x : 0 ≤ x ∧ x ≤ 23) (p0 : (0 ≤ M 598 65 ∧ M 598 65 ≤ 11)) (p1 : M 604 (M 598 65) ≤ 380) (q : ∀ (r : Int), (-2000) ≤ r ∧ r ≤ 2000 → r = lg6 M x → Q (some (.int (Int32.ofInt r))) M) : jc A 2 311 [.ref (598), .int (Int32.ofInt (x))] M Q := by
  obtain ⟨ea, hea⟩ : ∃ z, M 598 65 = z := ⟨_, rfl⟩
  rw [hea] at p0 p1
  refine jc_of (m := xm_311) rfl (Nat.le_of_ble_eq_true rfl) rfl ?_
  refine jr.aload_n rfl rfl ?_
  refine jr.getf (i := 65) (x := ea) (v := .int (Int32.ofInt (ea))) rfl rfl (nlt rfl) rfl (nlt rfl) rfl rfl hea rfl ?_
  refine jr.istore_n (ls' := [_, _, _]) rfl (nlt rfl) rfl ?_
  refine jr.aload_n rfl rfl ?_
  refine jr.iload_n rfl rfl ?_
  refine jr.aload_n rfl rfl ?_
  refine jr.getf (i := 8) (v := .ref 604) rfl rfl (nlt rfl) rfl (nlt rfl) rfl rfl rfl rfl ?_
  refine jr.iload_n rfl rfl ?_
  obtain ⟨v1, e1⟩ : ∃ z, M 604 ea = z := ⟨_, rfl⟩
  have b1 : 0 ≤ v1 ∧ v1 ≤ 400 := by rw [← e1]; exact (by have q := hI_M 604 ea (Nat.le_of_ble_eq_true rfl); rw [xri_row rfl rfl] at q; exact q)
  refine jr.iald (i := ea) (x := v1) rfl (nlt rfl) rfl (Nat.le_of_ble_eq_true rfl) (by omega) (by omega) e1 ?_
  refine jr.bipush rfl (jbp _ (nlt rfl)) ?_
  refine jr.iadd rfl ?_
  refine jr_v rfl rfl (Or.inl rfl) rfl rfl (nlt rfl) rfl ⟨rfl, Nat.le_of_ble_eq_true rfl, Nat.le_of_ble_eq_true rfl⟩ rfl (jc.deep (r_one hI_M hH_M hS_M (Kp.rfl _) (by omega) (by omega)  (fun r2 z2 w2_0 => ?_)) (Nat.le_of_ble_eq_true rfl))
  refine jr.istore_n (ls' := [_, _, _, _]) rfl (nlt rfl) rfl ?_
  refine jr.aload_n rfl rfl ?_
  refine jr.getf (i := 3) (v := .ref 600) rfl rfl (nlt rfl) rfl (nlt rfl) rfl rfl rfl rfl ?_
  refine jr.iload_n rfl rfl ?_
  obtain ⟨v3, e3⟩ : ∃ z, M 600 x = z := ⟨_, rfl⟩
  have b3 : (-1) ≤ v3 ∧ v3 ≤ 400 := by rw [← e3]; exact (by have q := hI_M 600 x (Nat.le_of_ble_eq_true rfl); rw [xri_row rfl rfl] at q; exact q)
  refine jr.iald (i := x) (x := v3) rfl (nlt rfl) rfl (Nat.le_of_ble_eq_true rfl) (by omega) (by omega) e3 ?_
  refine jr.aload_n rfl rfl ?_
  refine jr.getf (i := 8) (v := .ref 604) rfl rfl (nlt rfl) rfl (nlt rfl) rfl rfl rfl rfl ?_
  refine jr.iload_n rfl rfl ?_
  refine jr.iald (i := ea) (x := v1) rfl (nlt rfl) rfl (Nat.le_of_ble_eq_true rfl) (by omega) (by omega) e1 ?_
  refine jr.isub rfl ?_
  refine jr.aload_n rfl rfl ?_
  refine jr.getf (i := 9) (v := .ref 605) rfl rfl (nlt rfl) rfl (nlt rfl) rfl rfl rfl rfl ?_
  refine jr.iload_n rfl rfl ?_
  obtain ⟨v4, e4⟩ : ∃ z, M 605 ea = z := ⟨_, rfl⟩
  have b4 : 0 ≤ v4 ∧ v4 ≤ 400 := by rw [← e4]; exact (by have q := hI_M 605 ea (Nat.le_of_ble_eq_true rfl); rw [xri_row rfl rfl] at q; exact q)
  refine jr.iald (i := ea) (x := v4) rfl (nlt rfl) rfl (Nat.le_of_ble_eq_true rfl) (by omega) (by omega) e4 ?_
  refine jr.isub rfl ?_
  refine jr.iload_n rfl rfl ?_
  refine jr.iconst rfl ?_
  refine jr.ishr rfl ?_
  have b5 : j_shr r2 1 = r2 / 2 := j_shr_ex 1 (by decide) (by omega) (by omega)
  generalize j_shr r2 1 = v5 at b5 ⊢
  refine jr.iconst rfl ?_
  refine jr.iand rfl ?_
  have b6 : j_and v5 1 = v5 % 2 := j_and_m 1 (by decide) _
  generalize j_and v5 1 = v6 at b6 ⊢
  refine jr.iadd rfl ?_
  refine jr.iload_n rfl rfl ?_
  refine jr.iconst rfl ?_
  refine jr.iand rfl ?_
  have b7 : j_and r2 1 = r2 % 2 := j_and_m 1 (by decide) _
  generalize j_and r2 1 = v7 at b7 ⊢
  refine jr.iadd rfl ?_
  exact jr.ireturn rfl rfl rfl (q _ (by omega) (by unfold lg6; rw [hea, e1, e4]; omega))
theorem r_isOut_x {A : Nat → Option (Nat × (Nat → Int32))} {Q : Option Value → jm → Prop} {M : jm} (hI_M : RI M) (hH_M : RH M) (hS_M : RF M) {x : Int} (h_x : 0 ≤ x ∧ x ≤ 23) {f : Int} (h_f : 0 ≤ f ∧ f ≤ 23) {c : Int} (h_c : 0 ≤ c ∧ c ≤ 5) (p0 : (0 ≤ M 598 65 ∧ M 598 65 ≤ 11)) (p1 : M 604 (M 598 65) ≤ 380) (p2 : 0 ≤ M 598 66) (q : ∀ (r : Int), 0 ≤ r ∧ r ≤ 1 → r = io6 M x f c → Q (some (.int (Int32.ofInt r))) M) : jc A 4 312 [.ref (598), .int (Int32.ofInt (x)), .int (Int32.ofInt (f)), .int (Int32.ofInt (c))] M Q := by
  obtain ⟨ea, hea⟩ : ∃ z, M 598 65 = z := ⟨_, rfl⟩
  rw [hea] at p0 p1
  refine jc_of (m := xm_312) rfl (Nat.le_of_ble_eq_true rfl) rfl ?_
  refine jr.iconst rfl ?_
  refine jr.iload_n rfl rfl ?_
  refine jr.imul rfl ?_
  refine jr.aload_n rfl rfl ?_
  obtain ⟨v1, e1⟩ : ∃ z, M 598 66 = z := ⟨_, rfl⟩
  have b1 : (-1) ≤ v1 ∧ v1 ≤ 1 := by rw [← e1]; exact hI_M 598 66 (Nat.le_of_ble_eq_true rfl)
  refine jr.getf (i := 66) (x := v1) (v := .int (Int32.ofInt (v1))) rfl rfl (nlt rfl) rfl (nlt rfl) rfl rfl e1 rfl ?_
  refine jr.iadd rfl ?_
  refine jr.istore (ls' := [_, _, _, _, _]) rfl (nlt rfl) rfl ?_
  refine jr.iconst rfl ?_
  refine jr.iload_n rfl rfl ?_
  refine jr.imul rfl ?_
  refine jr.iconst rfl ?_
  refine jr.iadd rfl ?_
  refine jr.aload_n rfl rfl ?_
  refine jr.getf (i := 66) (x := v1) (v := .int (Int32.ofInt (v1))) rfl rfl (nlt rfl) rfl (nlt rfl) rfl rfl e1 rfl ?_
  refine jr.isub rfl ?_
  refine jr.istore (ls' := [_, _, _, _, _, _]) rfl (nlt rfl) rfl ?_
  refine jr.iload_n rfl rfl ?_
  refine jr.iconst rfl ?_
  refine jr.icmp_eq rfl rfl (by first | (refine rgb (by assumption) ?_; exact rfl) | omega) (rgl rfl) (fun h24 => ?_) (fun h24 => ?_)
  · refine jr.aload_n rfl rfl ?_
    refine jr.getf (i := 44) (v := .ref 632) rfl rfl (nlt rfl) rfl (nlt rfl) rfl rfl rfl rfl ?_
    refine jr.iload rfl rfl ?_
    obtain ⟨v2, e2⟩ : ∃ z, M 632 ((2 * f) + v1) = z := ⟨_, rfl⟩
    have b2 : 0 ≤ v2 ∧ v2 ≤ 1 := by rw [← e2]; exact (by have q := hI_M 632 ((2 * f) + v1) (by decide); rw [xri_row rfl rfl] at q; exact q)
    refine jr.zald (i := ((2 * f) + v1)) (x := v2) rfl (nlt rfl) rfl (Nat.le_of_ble_eq_true rfl) (by omega) (by omega) e2 ?_
    refine jr.if_ne rfl rfl (by first | (refine rgb (by assumption) ?_; exact rfl) | omega) (fun h39 => ?_) (fun h39 => ?_)
    · have sx39 : (1 : Int) ≤ v2 := by omega
      clear h39
      refine jr.aload_n rfl rfl ?_
      refine jr.iload_n rfl rfl ?_
      refine jr.aload_n rfl rfl ?_
      refine jr.getf (i := 8) (v := .ref 604) rfl rfl (nlt rfl) rfl (nlt rfl) rfl rfl rfl rfl ?_
      refine jr.aload_n rfl rfl ?_
      refine jr.getf (i := 65) (x := ea) (v := .int (Int32.ofInt (ea))) rfl rfl (nlt rfl) rfl (nlt rfl) rfl rfl hea rfl ?_
      obtain ⟨v3, e3⟩ : ∃ z, M 604 ea = z := ⟨_, rfl⟩
      have b3 : 0 ≤ v3 ∧ v3 ≤ 400 := by rw [← e3]; exact (by have q := hI_M 604 ea (Nat.le_of_ble_eq_true rfl); rw [xri_row rfl rfl] at q; exact q)
      refine jr.iald (i := ea) (x := v3) rfl (nlt rfl) rfl (Nat.le_of_ble_eq_true rfl) (by omega) (by omega) e3 ?_
      refine jr.iconst rfl ?_
      refine jr.iadd rfl ?_
      refine jr_v rfl rfl (Or.inl rfl) rfl rfl (nlt rfl) rfl ⟨rfl, Nat.le_of_ble_eq_true rfl, Nat.le_of_ble_eq_true rfl⟩ rfl (jc.deep (r_four_x hI_M hH_M hS_M  (by omega) (by omega)  (fun r4 z4 w4_0 => ?_)) (Nat.le_of_ble_eq_true rfl))
      refine jr.l2i rfl ?_
      refine jr.iw (j_w r4) (j_w_eq _) ?_
      have b5 : -2147483648 ≤ j_w r4 ∧ j_w r4 ≤ 2147483647 := jb_any _
      refine jr.istore (ls' := [_, _, _, _, _, _, _]) rfl (nlt rfl) rfl ?_
      refine jr.iload rfl rfl ?_
      refine jr.aload_n rfl rfl ?_
      refine jr.getf (i := 45) (v := .ref 633) rfl rfl (nlt rfl) rfl (nlt rfl) rfl rfl rfl rfl ?_
      refine jr.iload rfl rfl ?_
      obtain ⟨v6, e6⟩ : ∃ z, M 633 ((2 * f) + v1) = z := ⟨_, rfl⟩
      have b6 : (-2147483648) ≤ v6 ∧ v6 ≤ 2147483647 := by rw [← e6]; exact (by have q := hI_M 633 ((2 * f) + v1) (by decide); rw [xri_row rfl rfl] at q; exact q)
      refine jr.iald (i := ((2 * f) + v1)) (x := v6) rfl (nlt rfl) rfl (Nat.le_of_ble_eq_true rfl) (by omega) (by omega) e6 ?_
      refine jr.isub rfl ?_
      refine jr.iw (j_w ((j_w r4) - v6)) (j_w_eq _) ?_
      have b7 : -2147483648 ≤ j_w ((j_w r4) - v6) ∧ j_w ((j_w r4) - v6) ≤ 2147483647 := jb_any _
      refine jr.istore (ls' := [_, _, _, _, _, _, _, _]) rfl (nlt rfl) rfl ?_
      refine jr.iload rfl rfl ?_
      refine jr.aload_n rfl rfl ?_
      refine jr.iload_n rfl rfl ?_
      refine jr_v rfl rfl (Or.inl rfl) rfl rfl (nlt rfl) rfl ⟨rfl, Nat.le_of_ble_eq_true rfl, Nat.le_of_ble_eq_true rfl⟩ rfl (jc.deep (r_longOf_x hI_M hH_M hS_M  (by omega) (by rw [hea]; omega) (by rw [hea, e3]; omega) (fun r8 z8 w8_0 => ?_)) (Nat.le_of_ble_eq_true rfl))
      refine jr.iadd rfl ?_
      refine jr.iw (j_w ((j_w r4) + r8)) (j_w_eq _) ?_
      have b9 : -2147483648 ≤ j_w ((j_w r4) + r8) ∧ j_w ((j_w r4) + r8) ≤ 2147483647 := jb_any _
      refine jr.aload_n rfl rfl ?_
      refine jr.getf (i := 45) (v := .ref 633) rfl rfl (nlt rfl) rfl (nlt rfl) rfl rfl rfl rfl ?_
      refine jr.iload rfl rfl ?_
      refine jr.iald (i := ((2 * f) + v1)) (x := v6) rfl (nlt rfl) rfl (Nat.le_of_ble_eq_true rfl) (by omega) (by omega) e6 ?_
      refine jr.isub rfl ?_
      refine jr.iw (j_w ((j_w ((j_w r4) + r8)) - v6)) (j_w_eq _) ?_
      have b10 : -2147483648 ≤ j_w ((j_w ((j_w r4) + r8)) - v6) ∧ j_w ((j_w ((j_w r4) + r8)) - v6) ≤ 2147483647 := jb_any _
      refine jr.istore (ls' := [_, _, _, _, _, _, _, _, _]) rfl (nlt rfl) rfl ?_
      refine jr.iload rfl rfl ?_
      refine jr.ldcw (x := (-66000)) rfl rfl (by decide) ?_
      refine jr.icmp_lt rfl rfl (by first | (refine rgb (by assumption) ?_; exact rfl) | omega) (by first | (refine rgb (by assumption) ?_; exact rfl) | omega) (fun h98 => ?_) (fun h98 => ?_)
      · refine jr.iconst rfl ?_
        refine jr.goto rfl rfl ?_
        exact jr.ireturn rfl rfl rfl (q _ (by first | exact rgq rfl | omega) (by rw [io6_1 (l := v6) (by rw [e1]; omega) (show sq6 M x = j_w r4 from by unfold sq6; rw [hea, e3, ← w4_0]) w8_0.symm (by rw [e1]; exact e6) (by rw [e1]; omega)]))
      · refine jr.aload_n rfl rfl ?_
        refine jr.getf (i := 46) (v := .ref 634) rfl rfl (nlt rfl) rfl (nlt rfl) rfl rfl rfl rfl ?_
        refine jr.iload rfl rfl ?_
        obtain ⟨v11, e11⟩ : ∃ z, M 634 (((2 * f) + 1) - v1) = z := ⟨_, rfl⟩
        have b11 : 0 ≤ v11 ∧ v11 ≤ 1 := by rw [← e11]; exact (by have q := hI_M 634 (((2 * f) + 1) - v1) (by decide); rw [xri_row rfl rfl] at q; exact q)
        refine jr.zald (i := (((2 * f) + 1) - v1)) (x := v11) rfl (nlt rfl) rfl (Nat.le_of_ble_eq_true rfl) (by omega) (by omega) e11 ?_
        refine jr.if_eq rfl rfl (by first | (refine rgb (by assumption) ?_; exact rfl) | omega) (fun h108 => ?_) (fun h108 => ?_)
        · refine jr.iconst rfl ?_
          exact jr.ireturn rfl rfl rfl (q _ (by first | exact rgq rfl | omega) (by rw [io6_2 (l := v6) (by rw [e1]; omega) (show sq6 M x = j_w r4 from by unfold sq6; rw [hea, e3, ← w4_0]) w8_0.symm (by rw [e1]; exact e6) (by rw [e1]; omega)]))
        · have sx108 : (1 : Int) ≤ v11 := by omega
          clear h108
          refine jr.iload rfl rfl ?_
          refine jr.aload_n rfl rfl ?_
          refine jr.getf (i := 47) (v := .ref 635) rfl rfl (nlt rfl) rfl (nlt rfl) rfl rfl rfl rfl ?_
          refine jr.iload rfl rfl ?_
          obtain ⟨v12, e12⟩ : ∃ z, M 635 (((2 * f) + 1) - v1) = z := ⟨_, rfl⟩
          have b12 : 0 ≤ v12 ∧ v12 ≤ 65535 := by rw [← e12]; exact (by have q := hI_M 635 (((2 * f) + 1) - v1) (by decide); rw [xri_row rfl rfl] at q; exact q)
          refine jr.iald (i := (((2 * f) + 1) - v1)) (x := v12) rfl (nlt rfl) rfl (Nat.le_of_ble_eq_true rfl) (by omega) (by omega) e12 ?_
          refine jr.icmp_le rfl rfl (by first | (refine rgb (by assumption) ?_; exact rfl) | omega) (by first | (refine rgb (by assumption) ?_; exact rfl) | omega) (fun h120 => ?_) (fun h120 => ?_)
          · refine jr.iconst rfl ?_
            exact jr.ireturn rfl rfl rfl (q _ (by first | exact rgq rfl | omega) (by rw [io6_2 (l := v6) (by rw [e1]; omega) (show sq6 M x = j_w r4 from by unfold sq6; rw [hea, e3, ← w4_0]) w8_0.symm (by rw [e1]; exact e6) (by rw [e1]; omega)]))
          · refine jr.iconst rfl ?_
            refine jr.goto rfl rfl ?_
            exact jr.ireturn rfl rfl rfl (q _ (by first | exact rgq rfl | omega) (by rw [io6_1 (l := v6) (by rw [e1]; omega) (show sq6 M x = j_w r4 from by unfold sq6; rw [hea, e3, ← w4_0]) w8_0.symm (by rw [e1]; exact e6) (by rw [e1]; omega)]))
    · refine jr.iconst rfl ?_
      exact jr.ireturn rfl rfl rfl (q _ (by first | exact rgq rfl | omega) (by rw [io6_0 (by rw [e1]; omega)]))
  · refine jr.iload_n rfl rfl ?_
    refine jr.iconst rfl ?_
    refine jr.icmp_ne rfl rfl (by first | (refine rgb (by assumption) ?_; exact rfl) | omega) (rgl rfl) (fun h29 => ?_) (fun h29 => ?_)
    · refine jr.iconst rfl ?_
      exact jr.ireturn rfl rfl rfl (q _ (by first | exact rgq rfl | omega) (by rw [io6_0 (by rw [e1]; omega)]))
    · refine jr.aload_n rfl rfl ?_
      refine jr.getf (i := 44) (v := .ref 632) rfl rfl (nlt rfl) rfl (nlt rfl) rfl rfl rfl rfl ?_
      refine jr.iload rfl rfl ?_
      obtain ⟨v13, e13⟩ : ∃ z, M 632 ((2 * f) + v1) = z := ⟨_, rfl⟩
      have b13 : 0 ≤ v13 ∧ v13 ≤ 1 := by rw [← e13]; exact (by have q := hI_M 632 ((2 * f) + v1) (by decide); rw [xri_row rfl rfl] at q; exact q)
      refine jr.zald (i := ((2 * f) + v1)) (x := v13) rfl (nlt rfl) rfl (Nat.le_of_ble_eq_true rfl) (by omega) (by omega) e13 ?_
      refine jr.if_ne rfl rfl (by first | (refine rgb (by assumption) ?_; exact rfl) | omega) (fun h39 => ?_) (fun h39 => ?_)
      · have sx39 : (1 : Int) ≤ v13 := by omega
        clear h39
        refine jr.aload_n rfl rfl ?_
        refine jr.iload_n rfl rfl ?_
        refine jr.aload_n rfl rfl ?_
        refine jr.getf (i := 8) (v := .ref 604) rfl rfl (nlt rfl) rfl (nlt rfl) rfl rfl rfl rfl ?_
        refine jr.aload_n rfl rfl ?_
        refine jr.getf (i := 65) (x := ea) (v := .int (Int32.ofInt (ea))) rfl rfl (nlt rfl) rfl (nlt rfl) rfl rfl hea rfl ?_
        obtain ⟨v14, e14⟩ : ∃ z, M 604 ea = z := ⟨_, rfl⟩
        have b14 : 0 ≤ v14 ∧ v14 ≤ 400 := by rw [← e14]; exact (by have q := hI_M 604 ea (Nat.le_of_ble_eq_true rfl); rw [xri_row rfl rfl] at q; exact q)
        refine jr.iald (i := ea) (x := v14) rfl (nlt rfl) rfl (Nat.le_of_ble_eq_true rfl) (by omega) (by omega) e14 ?_
        refine jr.iconst rfl ?_
        refine jr.iadd rfl ?_
        refine jr_v rfl rfl (Or.inl rfl) rfl rfl (nlt rfl) rfl ⟨rfl, Nat.le_of_ble_eq_true rfl, Nat.le_of_ble_eq_true rfl⟩ rfl (jc.deep (r_four_x hI_M hH_M hS_M  (by omega) (by omega)  (fun r15 z15 w15_0 => ?_)) (Nat.le_of_ble_eq_true rfl))
        refine jr.l2i rfl ?_
        refine jr.iw (j_w r15) (j_w_eq _) ?_
        have b16 : -2147483648 ≤ j_w r15 ∧ j_w r15 ≤ 2147483647 := jb_any _
        refine jr.istore (ls' := [_, _, _, _, _, _, _]) rfl (nlt rfl) rfl ?_
        refine jr.iload rfl rfl ?_
        refine jr.aload_n rfl rfl ?_
        refine jr.getf (i := 45) (v := .ref 633) rfl rfl (nlt rfl) rfl (nlt rfl) rfl rfl rfl rfl ?_
        refine jr.iload rfl rfl ?_
        obtain ⟨v17, e17⟩ : ∃ z, M 633 ((2 * f) + v1) = z := ⟨_, rfl⟩
        have b17 : (-2147483648) ≤ v17 ∧ v17 ≤ 2147483647 := by rw [← e17]; exact (by have q := hI_M 633 ((2 * f) + v1) (by decide); rw [xri_row rfl rfl] at q; exact q)
        refine jr.iald (i := ((2 * f) + v1)) (x := v17) rfl (nlt rfl) rfl (Nat.le_of_ble_eq_true rfl) (by omega) (by omega) e17 ?_
        refine jr.isub rfl ?_
        refine jr.iw (j_w ((j_w r15) - v17)) (j_w_eq _) ?_
        have b18 : -2147483648 ≤ j_w ((j_w r15) - v17) ∧ j_w ((j_w r15) - v17) ≤ 2147483647 := jb_any _
        refine jr.istore (ls' := [_, _, _, _, _, _, _, _]) rfl (nlt rfl) rfl ?_
        refine jr.iload rfl rfl ?_
        refine jr.aload_n rfl rfl ?_
        refine jr.iload_n rfl rfl ?_
        refine jr_v rfl rfl (Or.inl rfl) rfl rfl (nlt rfl) rfl ⟨rfl, Nat.le_of_ble_eq_true rfl, Nat.le_of_ble_eq_true rfl⟩ rfl (jc.deep (r_longOf_x hI_M hH_M hS_M  (by omega) (by rw [hea]; omega) (by rw [hea, e14]; omega) (fun r19 z19 w19_0 => ?_)) (Nat.le_of_ble_eq_true rfl))
        refine jr.iadd rfl ?_
        refine jr.iw (j_w ((j_w r15) + r19)) (j_w_eq _) ?_
        have b20 : -2147483648 ≤ j_w ((j_w r15) + r19) ∧ j_w ((j_w r15) + r19) ≤ 2147483647 := jb_any _
        refine jr.aload_n rfl rfl ?_
        refine jr.getf (i := 45) (v := .ref 633) rfl rfl (nlt rfl) rfl (nlt rfl) rfl rfl rfl rfl ?_
        refine jr.iload rfl rfl ?_
        refine jr.iald (i := ((2 * f) + v1)) (x := v17) rfl (nlt rfl) rfl (Nat.le_of_ble_eq_true rfl) (by omega) (by omega) e17 ?_
        refine jr.isub rfl ?_
        refine jr.iw (j_w ((j_w ((j_w r15) + r19)) - v17)) (j_w_eq _) ?_
        have b21 : -2147483648 ≤ j_w ((j_w ((j_w r15) + r19)) - v17) ∧ j_w ((j_w ((j_w r15) + r19)) - v17) ≤ 2147483647 := jb_any _
        refine jr.istore (ls' := [_, _, _, _, _, _, _, _, _]) rfl (nlt rfl) rfl ?_
        refine jr.iload rfl rfl ?_
        refine jr.ldcw (x := (-66000)) rfl rfl (by decide) ?_
        refine jr.icmp_lt rfl rfl (by first | (refine rgb (by assumption) ?_; exact rfl) | omega) (by first | (refine rgb (by assumption) ?_; exact rfl) | omega) (fun h98 => ?_) (fun h98 => ?_)
        · refine jr.iconst rfl ?_
          refine jr.goto rfl rfl ?_
          exact jr.ireturn rfl rfl rfl (q _ (by first | exact rgq rfl | omega) (by rw [io6_1 (l := v17) (by rw [e1]; omega) (show sq6 M x = j_w r15 from by unfold sq6; rw [hea, e14, ← w15_0]) w19_0.symm (by rw [e1]; exact e17) (by rw [e1]; omega)]))
        · refine jr.aload_n rfl rfl ?_
          refine jr.getf (i := 46) (v := .ref 634) rfl rfl (nlt rfl) rfl (nlt rfl) rfl rfl rfl rfl ?_
          refine jr.iload rfl rfl ?_
          obtain ⟨v22, e22⟩ : ∃ z, M 634 (((2 * f) + 1) - v1) = z := ⟨_, rfl⟩
          have b22 : 0 ≤ v22 ∧ v22 ≤ 1 := by rw [← e22]; exact (by have q := hI_M 634 (((2 * f) + 1) - v1) (by decide); rw [xri_row rfl rfl] at q; exact q)
          refine jr.zald (i := (((2 * f) + 1) - v1)) (x := v22) rfl (nlt rfl) rfl (Nat.le_of_ble_eq_true rfl) (by omega) (by omega) e22 ?_
          refine jr.if_eq rfl rfl (by first | (refine rgb (by assumption) ?_; exact rfl) | omega) (fun h108 => ?_) (fun h108 => ?_)
          · refine jr.iconst rfl ?_
            exact jr.ireturn rfl rfl rfl (q _ (by first | exact rgq rfl | omega) (by rw [io6_2 (l := v17) (by rw [e1]; omega) (show sq6 M x = j_w r15 from by unfold sq6; rw [hea, e14, ← w15_0]) w19_0.symm (by rw [e1]; exact e17) (by rw [e1]; omega)]))
          · have sx108 : (1 : Int) ≤ v22 := by omega
            clear h108
            refine jr.iload rfl rfl ?_
            refine jr.aload_n rfl rfl ?_
            refine jr.getf (i := 47) (v := .ref 635) rfl rfl (nlt rfl) rfl (nlt rfl) rfl rfl rfl rfl ?_
            refine jr.iload rfl rfl ?_
            obtain ⟨v23, e23⟩ : ∃ z, M 635 (((2 * f) + 1) - v1) = z := ⟨_, rfl⟩
            have b23 : 0 ≤ v23 ∧ v23 ≤ 65535 := by rw [← e23]; exact (by have q := hI_M 635 (((2 * f) + 1) - v1) (by decide); rw [xri_row rfl rfl] at q; exact q)
            refine jr.iald (i := (((2 * f) + 1) - v1)) (x := v23) rfl (nlt rfl) rfl (Nat.le_of_ble_eq_true rfl) (by omega) (by omega) e23 ?_
            refine jr.icmp_le rfl rfl (by first | (refine rgb (by assumption) ?_; exact rfl) | omega) (by first | (refine rgb (by assumption) ?_; exact rfl) | omega) (fun h120 => ?_) (fun h120 => ?_)
            · refine jr.iconst rfl ?_
              exact jr.ireturn rfl rfl rfl (q _ (by first | exact rgq rfl | omega) (by rw [io6_2 (l := v17) (by rw [e1]; omega) (show sq6 M x = j_w r15 from by unfold sq6; rw [hea, e14, ← w15_0]) w19_0.symm (by rw [e1]; exact e17) (by rw [e1]; omega)]))
            · refine jr.iconst rfl ?_
              refine jr.goto rfl rfl ?_
              exact jr.ireturn rfl rfl rfl (q _ (by first | exact rgq rfl | omega) (by rw [io6_1 (l := v17) (by rw [e1]; omega) (show sq6 M x = j_w r15 from by unfold sq6; rw [hea, e14, ← w15_0]) w19_0.symm (by rw [e1]; exact e17) (by rw [e1]; omega)]))
      · refine jr.iconst rfl ?_
        exact jr.ireturn rfl rfl rfl (q _ (by first | exact rgq rfl | omega) (by rw [io6_0 (by rw [e1]; omega)]))
end
section
/-! ===== the reference: a flow begins ===== -/
noncomputable def fE6 (M : jm) : Nat → Int → Int
  | 0, _ => -1
  | n + 1, i => if M 627 i = 0 then i else fE6 M n (i + 1)
theorem fE6_s {M : jm} {i : Int} (h : i < 24) : fE6 M (24 - i).toNat i = if M 627 i = 0 then i else fE6 M (24 - (i + 1)).toNat (i + 1) := by
  obtain ⟨n, hn⟩ : ∃ n : Nat, i = 23 - n := ⟨(23 - i).toNat, by omega⟩
  subst hn
  rw [show (24 - (23 - (n : Int))).toNat = n + 1 by omega, show (24 - (23 - (n : Int) + 1)).toNat = n by omega]
  rfl
noncomputable def BF6 (T M : jm) (f : Int) : Prop := (M 627 f = 1 ∧ M 628 f = T 598 59 ∧ M 629 f = T 598 60 ∧ M 630 (2 * f) = T 598 61 ∧ M 630 (2 * f + 1) = T 598 62 ∧ M 631 (2 * f) = T 598 63 ∧ M 631 (2 * f + 1) = T 598 64 ∧ M 640 f = -1) ∧ (∀ j : Int, 2 * f ≤ j → j < 2 * f + 2 → M 632 j = 0 ∧ M 633 j = 0 ∧ M 634 j = 0 ∧ M 635 j = 0 ∧ M 636 j = 0 ∧ M 637 j = 0) ∧ (∀ j : Int, j ≠ f → M 627 j = T 627 j ∧ M 628 j = T 628 j ∧ M 629 j = T 629 j ∧ M 640 j = T 640 j) ∧ ∀ j : Int, (j < 2 * f ∨ 2 * f + 2 ≤ j) → M 630 j = T 630 j ∧ M 631 j = T 631 j ∧ M 632 j = T 632 j ∧ M 633 j = T 633 j ∧ M 634 j = T 634 j ∧ M 635 j = T 635 j ∧ M 636 j = T 636 j ∧ M 637 j = T 637 j
theorem BF6.m {T M : jm} {f s n a b p q : Int} (hs : T 598 59 = s) (hn : T 598 60 = n) (ha : T 598 61 = a) (hb : T 598 62 = b) (hp : T 598 63 = p) (hq : T 598 64 = q) (w : FG6 (ju (ju (ju (ju (ju (ju (ju (ju T 627 f 1) 628 f s) 629 f n) 630 (2 * f) a) 630 (2 * f + 1) b) 631 (2 * f) p) 631 (2 * f + 1) q) 640 f (-1)) M f (2 * f + 2)) (fr : ∀ (c : Nat) (i : Int), c ≠ 632 → c ≠ 633 → c ≠ 634 → c ≠ 635 → c ≠ 636 → c ≠ 637 → M c i = ju (ju (ju (ju (ju (ju (ju (ju T 627 f 1) 628 f s) 629 f n) 630 (2 * f) a) 630 (2 * f + 1) b) 631 (2 * f) p) 631 (2 * f + 1) q) 640 f (-1) c i) : BF6 T M f := by
  have g : ∀ (c : Nat) (i : Int), c ≠ 632 → c ≠ 633 → c ≠ 634 → c ≠ 635 → c ≠ 636 → c ≠ 637 → M c i = _ := fr
  refine ⟨⟨?_, ?_, ?_, ?_, ?_, ?_, ?_, ?_⟩, w.1, fun j hj => ⟨?_, ?_, ?_, ?_⟩, fun j hj => ⟨?_, ?_, ?_, ?_, ?_, ?_, ?_, ?_⟩⟩
  · rw [fr 627 f (by decide) (by decide) (by decide) (by decide) (by decide) (by decide)]; simp [ju]
  · rw [fr 628 f (by decide) (by decide) (by decide) (by decide) (by decide) (by decide)]; simp [ju, hs]
  · rw [fr 629 f (by decide) (by decide) (by decide) (by decide) (by decide) (by decide)]; simp [ju, hn]
  · rw [fr 630 _ (by decide) (by decide) (by decide) (by decide) (by decide) (by decide), ju_c _ _ (by decide), ju_c _ _ (by decide), ju_c _ _ (by decide), ju_i _ _ (by omega), ju_same, ha]
  · rw [fr 630 _ (by decide) (by decide) (by decide) (by decide) (by decide) (by decide), ju_c _ _ (by decide), ju_c _ _ (by decide), ju_c _ _ (by decide), ju_same, hb]
  · rw [fr 631 _ (by decide) (by decide) (by decide) (by decide) (by decide) (by decide), ju_c _ _ (by decide), ju_i _ _ (by omega), ju_same, hp]
  · rw [fr 631 _ (by decide) (by decide) (by decide) (by decide) (by decide) (by decide), ju_c _ _ (by decide), ju_same, hq]
  · rw [fr 640 _ (by decide) (by decide) (by decide) (by decide) (by decide) (by decide), ju_same]
  · rw [fr 627 j (by decide) (by decide) (by decide) (by decide) (by decide) (by decide)]; simp [ju, hj]
  · rw [fr 628 j (by decide) (by decide) (by decide) (by decide) (by decide) (by decide)]; simp [ju, hj]
  · rw [fr 629 j (by decide) (by decide) (by decide) (by decide) (by decide) (by decide)]; simp [ju, hj]
  · rw [fr 640 j (by decide) (by decide) (by decide) (by decide) (by decide) (by decide)]; simp [ju, hj]
  · rw [w.2 630 j hj, ju_c _ _ (by decide), ju_c _ _ (by decide), ju_c _ _ (by decide), ju_i _ _ (by omega), ju_i _ _ (by omega), ju_c _ _ (by decide), ju_c _ _ (by decide), ju_c _ _ (by decide)]
  · rw [w.2 631 j hj, ju_c _ _ (by decide), ju_i _ _ (by omega), ju_i _ _ (by omega), ju_c _ _ (by decide), ju_c _ _ (by decide), ju_c _ _ (by decide), ju_c _ _ (by decide), ju_c _ _ (by decide)]
  · rw [w.2 632 j hj]; simp [ju]
  · rw [w.2 633 j hj]; simp [ju]
  · rw [w.2 634 j hj]; simp [ju]
  · rw [w.2 635 j hj]; simp [ju]
  · rw [w.2 636 j hj]; simp [ju]
  · rw [w.2 637 j hj]; simp [ju]
theorem r_beginFlow_L5_x {A : Nat → Option (Nat × (Nat → Int32))} {Q : Option Value → jm → Prop} {M0 : jm} (q : ∀ (r : Int) (M' : jm), RI M' → RH M' → (-1) ≤ r ∧ r ≤ 23 → RFx M' r → (r = -1 ∨ M' 629 r = M0 598 60) → (r = fE6 M0 24 0 ∧ ((r = -1 ∧ M' = M0) ∨ (r ≠ -1 ∧ BF6 M0 M' r))) → (∀ (a : Nat) (i : Int), a ≠ 627 → a ≠ 628 → a ≠ 629 → a ≠ 630 → a ≠ 631 → a ≠ 632 → a ≠ 633 → a ≠ 634 → a ≠ 635 → a ≠ 636 → a ≠ 637 → a ≠ 640 → M' a i = M0 a i) → Q (some (.int (Int32.ofInt r))) M') : ∀ (nM : Nat) (M : jm) (k : Int) (f : Int), RI M → RH M → RF M → (∀ (a : Nat) (i : Int), a ≠ 627 → a ≠ 628 → a ≠ 629 → a ≠ 630 → a ≠ 631 → a ≠ 632 → a ≠ 633 → a ≠ 634 → a ≠ 635 → a ≠ 636 → a ≠ 637 → a ≠ 640 → M a i = M0 a i) → (-1) ≤ k ∧ k ≤ 23 → (-1) ≤ f ∧ f ≤ 23 → f = fE6 M0 (24 - (k + 1)).toNat (k + 1) → M = M0 → k + 1 ≤ nM → jr A 1 xm_310 5 [(2, .int (Int32.ofInt (k))), (1, .int (Int32.ofInt (f))), (0, .ref (598))] [] M Q := by
  intro nM
  induction nM using Nat.strongRecOn with
  | ind nM ih =>
    intro M k f hI_M hH_M hS_M hF_M h_k h_f hy0 hy1 hm
    refine jr.iload_n rfl rfl ?_
    refine jr.if_lt rfl rfl (by first | (refine rgb (by assumption) ?_; exact rfl) | omega) (fun h6 => ?_) (fun h6 => ?_)
    · refine jr.iload_n rfl rfl ?_
      refine jr.iconst rfl ?_
      refine jr.icmp_ne rfl rfl (by first | (refine rgb (by assumption) ?_; exact rfl) | omega) (rgl rfl) (fun h32 => ?_) (fun h32 => ?_)
      · have sx32 : (0 : Int) ≤ f := by omega
        clear h32
        refine jr.aload_n rfl rfl ?_
        refine jr.getf (i := 39) (v := .ref 627) rfl rfl (nlt rfl) rfl (nlt rfl) rfl rfl rfl rfl ?_
        refine jr.iload_n rfl rfl ?_
        refine jr.iconst rfl ?_
        refine jr.zast (i := f) (x := 1) rfl (nlt rfl) rfl (Nat.le_of_ble_eq_true rfl) (by omega) (by omega) (j_zn (by omega)) ?_
        refine jr.aload_n rfl rfl ?_
        refine jr.getf (i := 40) (v := .ref 628) rfl rfl (nlt rfl) rfl (nlt rfl) rfl rfl rfl rfl ?_
        refine jr.iload_n rfl rfl ?_
        refine jr.aload_n rfl rfl ?_
        obtain ⟨v1, e1⟩ : ∃ z, M 598 59 = z := ⟨_, rfl⟩
        have b1 : 0 ≤ v1 ∧ v1 ≤ 1 := by rw [← e1]; exact hI_M 598 59 (Nat.le_of_ble_eq_true rfl)
        refine jr.getf (i := 59) (x := v1) (v := .int (Int32.ofInt (v1))) rfl rfl (nlt rfl) rfl (nlt rfl) rfl rfl ((ju_c _ _ (by decide)).trans e1) rfl ?_
        refine jr.zast (i := f) (x := v1) rfl (nlt rfl) rfl (Nat.le_of_ble_eq_true rfl) (by omega) (by omega) (j_zn (by omega)) ?_
        refine jr.aload_n rfl rfl ?_
        refine jr.getf (i := 41) (v := .ref 629) rfl rfl (nlt rfl) rfl (nlt rfl) rfl rfl rfl rfl ?_
        refine jr.iload_n rfl rfl ?_
        refine jr.aload_n rfl rfl ?_
        obtain ⟨v2, e2⟩ : ∃ z, M 598 60 = z := ⟨_, rfl⟩
        have b2 : 0 ≤ v2 ∧ v2 ≤ 255 := by rw [← e2]; exact hI_M 598 60 (Nat.le_of_ble_eq_true rfl)
        refine jr.getf (i := 60) (x := v2) (v := .int (Int32.ofInt (v2))) rfl rfl (nlt rfl) rfl (nlt rfl) rfl rfl ((ju_c _ _ (by decide)).trans ((ju_c _ _ (by decide)).trans e2)) rfl ?_
        refine jr.iast (i := f) (x := v2) rfl (nlt rfl) rfl (Nat.le_of_ble_eq_true rfl) (by omega) (by omega) ?_
        refine jr.aload_n rfl rfl ?_
        refine jr.getf (i := 42) (v := .ref 630) rfl rfl (nlt rfl) rfl (nlt rfl) rfl rfl rfl rfl ?_
        refine jr.iconst rfl ?_
        refine jr.iload_n rfl rfl ?_
        refine jr.imul rfl ?_
        refine jr.aload_n rfl rfl ?_
        obtain ⟨v3, e3⟩ : ∃ z, M 598 61 = z := ⟨_, rfl⟩
        have b3 : (-9223372036854775808) ≤ v3 ∧ v3 ≤ 9223372036854775807 := by rw [← e3]; exact hI_M 598 61 (Nat.le_of_ble_eq_true rfl)
        refine jr.getf (i := 61) (x := v3) (v := .long (Int64.ofInt (v3))) rfl rfl (nlt rfl) rfl (nlt rfl) rfl rfl ((ju_c _ _ (by decide)).trans ((ju_c _ _ (by decide)).trans ((ju_c _ _ (by decide)).trans e3))) rfl ?_
        refine jr.last (i := (2 * f)) (x := v3) rfl (nlt rfl) rfl (Nat.le_of_ble_eq_true rfl) (by omega) (by omega) ?_
        refine jr.aload_n rfl rfl ?_
        refine jr.getf (i := 42) (v := .ref 630) rfl rfl (nlt rfl) rfl (nlt rfl) rfl rfl rfl rfl ?_
        refine jr.iconst rfl ?_
        refine jr.iload_n rfl rfl ?_
        refine jr.imul rfl ?_
        refine jr.iconst rfl ?_
        refine jr.iadd rfl ?_
        refine jr.aload_n rfl rfl ?_
        obtain ⟨v4, e4⟩ : ∃ z, M 598 62 = z := ⟨_, rfl⟩
        have b4 : (-9223372036854775808) ≤ v4 ∧ v4 ≤ 9223372036854775807 := by rw [← e4]; exact hI_M 598 62 (Nat.le_of_ble_eq_true rfl)
        refine jr.getf (i := 62) (x := v4) (v := .long (Int64.ofInt (v4))) rfl rfl (nlt rfl) rfl (nlt rfl) rfl rfl ((ju_c _ _ (by decide)).trans ((ju_c _ _ (by decide)).trans ((ju_c _ _ (by decide)).trans ((ju_c _ _ (by decide)).trans e4)))) rfl ?_
        refine jr.last (i := ((2 * f) + 1)) (x := v4) rfl (nlt rfl) rfl (Nat.le_of_ble_eq_true rfl) (by omega) (by omega) ?_
        refine jr.aload_n rfl rfl ?_
        refine jr.getf (i := 43) (v := .ref 631) rfl rfl (nlt rfl) rfl (nlt rfl) rfl rfl rfl rfl ?_
        refine jr.iconst rfl ?_
        refine jr.iload_n rfl rfl ?_
        refine jr.imul rfl ?_
        refine jr.aload_n rfl rfl ?_
        obtain ⟨v5, e5⟩ : ∃ z, M 598 63 = z := ⟨_, rfl⟩
        have b5 : 0 ≤ v5 ∧ v5 ≤ 65535 := by rw [← e5]; exact hI_M 598 63 (Nat.le_of_ble_eq_true rfl)
        refine jr.getf (i := 63) (x := v5) (v := .int (Int32.ofInt (v5))) rfl rfl (nlt rfl) rfl (nlt rfl) rfl rfl ((ju_c _ _ (by decide)).trans ((ju_c _ _ (by decide)).trans ((ju_c _ _ (by decide)).trans ((ju_c _ _ (by decide)).trans ((ju_c _ _ (by decide)).trans e5))))) rfl ?_
        refine jr.iast (i := (2 * f)) (x := v5) rfl (nlt rfl) rfl (Nat.le_of_ble_eq_true rfl) (by omega) (by omega) ?_
        refine jr.aload_n rfl rfl ?_
        refine jr.getf (i := 43) (v := .ref 631) rfl rfl (nlt rfl) rfl (nlt rfl) rfl rfl rfl rfl ?_
        refine jr.iconst rfl ?_
        refine jr.iload_n rfl rfl ?_
        refine jr.imul rfl ?_
        refine jr.iconst rfl ?_
        refine jr.iadd rfl ?_
        refine jr.aload_n rfl rfl ?_
        obtain ⟨v6, e6⟩ : ∃ z, M 598 64 = z := ⟨_, rfl⟩
        have b6 : 0 ≤ v6 ∧ v6 ≤ 65535 := by rw [← e6]; exact hI_M 598 64 (Nat.le_of_ble_eq_true rfl)
        refine jr.getf (i := 64) (x := v6) (v := .int (Int32.ofInt (v6))) rfl rfl (nlt rfl) rfl (nlt rfl) rfl rfl ((ju_c _ _ (by decide)).trans ((ju_c _ _ (by decide)).trans ((ju_c _ _ (by decide)).trans ((ju_c _ _ (by decide)).trans ((ju_c _ _ (by decide)).trans ((ju_c _ _ (by decide)).trans e6)))))) rfl ?_
        refine jr.iast (i := ((2 * f) + 1)) (x := v6) rfl (nlt rfl) rfl (Nat.le_of_ble_eq_true rfl) (by omega) (by omega) ?_
        refine jr.aload_n rfl rfl ?_
        refine jr.getf (i := 52) (v := .ref 640) rfl rfl (nlt rfl) rfl (nlt rfl) rfl rfl rfl rfl ?_
        refine jr.iload_n rfl rfl ?_
        refine jr.iconst rfl ?_
        refine jr.iast (i := f) (x := (-1)) rfl (nlt rfl) rfl (Nat.le_of_ble_eq_true rfl) (by omega) (by omega) ?_
        refine jr.aload_n rfl rfl ?_
        refine jr.iload_n rfl rfl ?_
        refine jr_v rfl rfl (Or.inl rfl) rfl rfl (nlt rfl) rfl ⟨rfl, Nat.le_of_ble_eq_true rfl, Nat.le_of_ble_eq_true rfl⟩ rfl (jc.deep (r_forget_x (RI.u (RI.u (RI.u (RI.u (RI.u (RI.u (RI.u (RI.u hI_M (a := 627) (i := f) (by rw [xri_row rfl rfl]; show (0 : Int) ≤ _ ∧ _ ≤ (1 : Int); omega)) (a := 628) (i := f) (by rw [xri_row rfl rfl]; show (0 : Int) ≤ _ ∧ _ ≤ (1 : Int); omega)) (a := 629) (i := f) (by rw [xri_row rfl rfl]; show (0 : Int) ≤ _ ∧ _ ≤ (255 : Int); omega)) (a := 630) (i := (2 * f)) (by rw [xri_row rfl rfl]; show (-9223372036854775808 : Int) ≤ _ ∧ _ ≤ (9223372036854775807 : Int); omega)) (a := 630) (i := ((2 * f) + 1)) (by rw [xri_row rfl rfl]; show (-9223372036854775808 : Int) ≤ _ ∧ _ ≤ (9223372036854775807 : Int); omega)) (a := 631) (i := (2 * f)) (by rw [xri_row rfl rfl]; show (0 : Int) ≤ _ ∧ _ ≤ (65535 : Int); omega)) (a := 631) (i := ((2 * f) + 1)) (by rw [xri_row rfl rfl]; show (0 : Int) ≤ _ ∧ _ ≤ (65535 : Int); omega)) (a := 640) (i := f) (by rw [xri_row rfl rfl]; show (-1 : Int) ≤ _ ∧ _ ≤ (3 : Int); omega)) (RH.o (RH.o (RH.o (RH.o (RH.o (RH.o (RH.o (RH.o hH_M (by decide) (by decide) (by decide)) (by decide) (by decide) (by decide)) (by decide) (by decide) (by decide)) (by decide) (by decide) (by decide)) (by decide) (by decide) (by decide)) (by decide) (by decide) (by decide)) (by decide) (by decide) (by decide)) (by decide) (by decide) (by decide))  (by omega)  (fun M7 hI_M7 hH_M7  w7_0 w7_1 => ?_)) (Nat.le_of_ble_eq_true rfl))
        refine jr.iload_n rfl rfl ?_
        have e8 : M7 629 f = v2 := ((w7_1 629 f (nne rfl) (nne rfl) (nne rfl) (nne rfl) (nne rfl) (nne rfl)).trans ((ju_c _ _ (by decide)).trans ((ju_c _ _ (by decide)).trans ((ju_c _ _ (by decide)).trans ((ju_c _ _ (by decide)).trans ((ju_c _ _ (by decide)).trans (ju_same _ _ _ _)))))))
        exact jr.ireturn rfl rfl rfl (q _ _ hI_M7 hH_M7  (by omega) (RFx.fr (RFx.o (RFx.o (RFx.o (RFx.o (RFx.o (RF.x (RF.o (RF.o hS_M (by decide) (by decide)) (by decide) (by decide))) (by decide) (by decide)) (by decide) (by decide)) (by decide) (by decide)) (by decide) (by decide)) (by decide) (by decide)) (fun f => w7_1 629 f (nne rfl) (nne rfl) (nne rfl) (nne rfl) (nne rfl) (nne rfl)) (fun f => w7_1 638 f (nne rfl) (nne rfl) (nne rfl) (nne rfl) (nne rfl) (nne rfl))) (Or.inr (e8.trans (by have z := hF_M 598 60 (nne rfl) (nne rfl) (nne rfl) (nne rfl) (nne rfl) (nne rfl) (nne rfl) (nne rfl) (nne rfl) (nne rfl) (nne rfl) (nne rfl); omega))) ⟨(by have h9 := hy0; rw [show (24 - (k + 1)).toNat = 24 from by omega, show k + 1 = 0 from by omega] at h9; exact h9), Or.inr ⟨by omega, (by have h8 := w7_0; have h7 := w7_1; rw [hy1] at h8 h7; exact BF6.m (by rw [← hy1]; exact e1) (by rw [← hy1]; exact e2) (by rw [← hy1]; exact e3) (by rw [← hy1]; exact e4) (by rw [← hy1]; exact e5) (by rw [← hy1]; exact e6) h8 h7)⟩⟩ (fun a i f627 f628 f629 f630 f631 f632 f633 f634 f635 f636 f637 f640 => ((w7_1 a i f632 f633 f634 f635 f636 f637).trans ((ju_c _ _ f640).trans ((ju_c _ _ f631).trans ((ju_c _ _ f631).trans ((ju_c _ _ f630).trans ((ju_c _ _ f630).trans ((ju_c _ _ f629).trans ((ju_c _ _ f628).trans ((ju_c _ _ f627).trans (hF_M a i f627 f628 f629 f630 f631 f632 f633 f634 f635 f636 f637 f640))))))))))))
      · refine jr.iconst rfl ?_
        exact jr.ireturn rfl rfl rfl (q _ _ hI_M hH_M  (by first | exact rgq rfl | omega) (fun f _ => hS_M f) (Or.inl rfl) ⟨(by have h8 := (by have h9 := hy0; rw [show (24 - (k + 1)).toNat = 24 from by omega, show k + 1 = 0 from by omega] at h9; exact h9); omega), Or.inl ⟨rfl, hy1⟩⟩ (fun a i f627 f628 f629 f630 f631 f632 f633 f634 f635 f636 f637 f640 => (hF_M a i f627 f628 f629 f630 f631 f632 f633 f634 f635 f636 f637 f640)))
    · refine jr.aload_n rfl rfl ?_
      refine jr.getf (i := 39) (v := .ref 627) rfl rfl (nlt rfl) rfl (nlt rfl) rfl rfl rfl rfl ?_
      refine jr.iload_n rfl rfl ?_
      obtain ⟨v9, e9⟩ : ∃ z, M 627 k = z := ⟨_, rfl⟩
      have b9 : 0 ≤ v9 ∧ v9 ≤ 1 := by rw [← e9]; exact (by have q := hI_M 627 k (Nat.le_of_ble_eq_true rfl); rw [xri_row rfl rfl] at q; exact q)
      refine jr.zald (i := k) (x := v9) rfl (nlt rfl) rfl (Nat.le_of_ble_eq_true rfl) (by omega) (by omega) e9 ?_
      refine jr.if_eq rfl rfl (by first | (refine rgb (by assumption) ?_; exact rfl) | omega) (fun h15 => ?_) (fun h15 => ?_)
      · refine jr.iload_n rfl rfl ?_
        refine jr.istore_n (ls' := [_, _, _]) rfl (nlt rfl) rfl ?_
        refine jr.iinc (ls' := [_, _, _]) rfl rfl (nlt rfl) rfl ?_
        refine jr.goto rfl rfl ?_
        refine jr.pick (ls := [_, _, _]) [0, 1, 2] rfl rfl ?_
        exact ih (nM - 1) (by omega) M (k + (-1)) k hI_M hH_M hS_M  (fun a i f627 f628 f629 f630 f631 f632 f633 f634 f635 f636 f637 f640 => (hF_M a i f627 f628 f629 f630 f631 f632 f633 f634 f635 f636 f637 f640)) (by omega) (by omega) (by rw [show k + -1 + 1 = k from by omega, fE6_s (by omega), ← hy1]; first | (rw [if_pos (by omega)]; done) | (rw [if_neg (by omega), hy1]; exact hy0)) hy1 (by omega)
      · have sx15 : (1 : Int) ≤ v9 := by omega
        clear h15
        refine jr.iload_n rfl rfl ?_
        refine jr.goto rfl rfl ?_
        refine jr.istore_n (ls' := [_, _, _]) rfl (nlt rfl) rfl ?_
        refine jr.iinc (ls' := [_, _, _]) rfl rfl (nlt rfl) rfl ?_
        refine jr.goto rfl rfl ?_
        refine jr.pick (ls := [_, _, _]) [0, 1, 2] rfl rfl ?_
        exact ih (nM - 1) (by omega) M (k + (-1)) f hI_M hH_M hS_M  (fun a i f627 f628 f629 f630 f631 f632 f633 f634 f635 f636 f637 f640 => (hF_M a i f627 f628 f629 f630 f631 f632 f633 f634 f635 f636 f637 f640)) (by omega) (by omega) (by rw [show k + -1 + 1 = k from by omega, fE6_s (by omega), ← hy1]; first | (rw [if_pos (by omega)]; done) | (rw [if_neg (by omega), hy1]; exact hy0)) hy1 (by omega)
theorem r_beginFlow_x {A : Nat → Option (Nat × (Nat → Int32))} {Q : Option Value → jm → Prop} {M : jm} (hI_M : RI M) (hH_M : RH M) (hS_M : RF M) (q : ∀ (r : Int) (M' : jm), RI M' → RH M' → (-1) ≤ r ∧ r ≤ 23 → RFx M' r → (r = -1 ∨ M' 629 r = M 598 60) → (r = fE6 M 24 0 ∧ ((r = -1 ∧ M' = M) ∨ (r ≠ -1 ∧ BF6 M M' r))) → (∀ (a : Nat) (i : Int), a ≠ 627 → a ≠ 628 → a ≠ 629 → a ≠ 630 → a ≠ 631 → a ≠ 632 → a ≠ 633 → a ≠ 634 → a ≠ 635 → a ≠ 636 → a ≠ 637 → a ≠ 640 → M' a i = M a i) → Q (some (.int (Int32.ofInt r))) M') : jc A 2 310 [.ref (598)] M Q := by
  refine jc_of (m := xm_310) rfl (Nat.le_of_ble_eq_true rfl) rfl ?_
  refine jr.iconst rfl ?_
  refine jr.istore_n (ls' := [_, _]) rfl (nlt rfl) rfl ?_
  refine jr.bipush rfl (jbp _ (nlt rfl)) ?_
  refine jr.istore_n (ls' := [_, _, _]) rfl (nlt rfl) rfl ?_
  refine jr.pick (ls := [_, _, _]) [0, 1, 2] rfl rfl ?_
  exact r_beginFlow_L5_x q 24 M 23 (-1) hI_M hH_M hS_M  (fun a i f627 f628 f629 f630 f631 f632 f633 f634 f635 f636 f637 f640 => rfl) (by omega) (by omega) rfl rfl (by omega)
end
section
/-! ===== the reference: counts ===== -/
noncomputable def ct0 (M : jm) (x s : Int) : jm := ju (ju (ju M 636 s (jl_w (M 636 s + 1))) 637 s (jl_w (M 637 s + M 600 x))) 634 s 1
noncomputable def ctE (M : jm) (x : Int) : Int := j_w (sq6 M x + lg6 M x)
noncomputable def CT6 (M M' : jm) (x f s : Int) : Prop := (M 629 f ≠ 6 ∧ M' = ct0 M x s) ∨ (M 629 f = 6 ∧ (M 632 s ≠ 0 ∧ j_w (ctE M x - M 633 s) ≤ 0) ∧ M' = ju (ju (ct0 M x s) 632 s 1) 635 s (tw (rf M x) (M 604 (M 598 65) + 14))) ∨ (M 629 f = 6 ∧ ¬ (M 632 s ≠ 0 ∧ j_w (ctE M x - M 633 s) ≤ 0) ∧ M' = ju (ju (ju (ct0 M x s) 633 s (ctE M x)) 632 s 1) 635 s (tw (rf M x) (M 604 (M 598 65) + 14)))
theorem lg6_e {M M1 : jm} (x : Int) (h0 : ∀ i : Int, M1 600 i = M 600 i) (h1 : ∀ i : Int, M1 601 i = M 601 i) (h4 : ∀ i : Int, M1 604 i = M 604 i) (h5 : ∀ i : Int, M1 605 i = M 605 i) (h8 : ∀ i : Int, M1 598 i = M 598 i) : lg6 M1 x = lg6 M x := by
  unfold lg6
  simp only [h0, h1, h4, h5, h8]
theorem r_counts_x {A : Nat → Option (Nat × (Nat → Int32))} {Q : Option Value → jm → Prop} {M : jm} (hI_M : RI M) (hH_M : RH M) (hS_M : RF M) {x : Int} (h_x : 0 ≤ x ∧ x ≤ 23) {f : Int} (h_f : 0 ≤ f ∧ f ≤ 23) (p0 : (0 ≤ M 598 65 ∧ M 598 65 ≤ 11)) (p1 : (M 629 f = 6 → M 604 (M 598 65) ≤ 380)) (p2 : 0 ≤ M 598 66) (q : ∀ (M' : jm), RI M' → RH M' → RF M' → CT6 M M' x f (2 * f + M 598 66) → (∀ (a : Nat) (i : Int), a ≠ 632 → a ≠ 633 → a ≠ 634 → a ≠ 635 → a ≠ 636 → a ≠ 637 → M' a i = M a i) → Q none M') : jc A 4 313 [.ref (598), .int (Int32.ofInt (x)), .int (Int32.ofInt (f))] M Q := by
  obtain ⟨ea, hea⟩ : ∃ z, M 598 65 = z := ⟨_, rfl⟩
  rw [hea] at p0 p1
  refine jc_of (m := xm_313) rfl (Nat.le_of_ble_eq_true rfl) rfl ?_
  refine jr.iconst rfl ?_
  refine jr.iload_n rfl rfl ?_
  refine jr.imul rfl ?_
  refine jr.aload_n rfl rfl ?_
  obtain ⟨v1, e1⟩ : ∃ z, M 598 66 = z := ⟨_, rfl⟩
  have b1 : (-1) ≤ v1 ∧ v1 ≤ 1 := by rw [← e1]; exact hI_M 598 66 (Nat.le_of_ble_eq_true rfl)
  refine jr.getf (i := 66) (x := v1) (v := .int (Int32.ofInt (v1))) rfl rfl (nlt rfl) rfl (nlt rfl) rfl rfl e1 rfl ?_
  refine jr.iadd rfl ?_
  refine jr.istore_n (ls' := [_, _, _, _]) rfl (nlt rfl) rfl ?_
  refine jr.aload_n rfl rfl ?_
  refine jr.getf (i := 48) (v := .ref 636) rfl rfl (nlt rfl) rfl (nlt rfl) rfl rfl rfl rfl ?_
  refine jr.iload_n rfl rfl ?_
  refine jr.dup2 rfl ⟨rfl, rfl⟩ ?_
  obtain ⟨v2, e2⟩ : ∃ z, M 636 ((2 * f) + v1) = z := ⟨_, rfl⟩
  have b2 : (-9223372036854775808) ≤ v2 ∧ v2 ≤ 9223372036854775807 := by rw [← e2]; exact (by have q := hI_M 636 ((2 * f) + v1) (by decide); rw [xri_row rfl rfl] at q; exact q)
  refine jr.lald (i := ((2 * f) + v1)) (x := v2) rfl (nlt rfl) rfl (Nat.le_of_ble_eq_true rfl) (by omega) (by omega) e2 ?_
  refine jr.lconst (x := 1) rfl (by decide) ?_
  refine jr.ladd rfl ?_
  refine jr.lw (jl_w (v2 + 1)) (jl_w_eq _) ?_
  have b3 : -9223372036854775808 ≤ jl_w (v2 + 1) ∧ jl_w (v2 + 1) ≤ 9223372036854775807 := jbl_any _
  refine jr.last (i := ((2 * f) + v1)) (x := (jl_w (v2 + 1))) rfl (nlt rfl) rfl (Nat.le_of_ble_eq_true rfl) (by omega) (by omega) ?_
  refine jr.aload_n rfl rfl ?_
  refine jr.getf (i := 49) (v := .ref 637) rfl rfl (nlt rfl) rfl (nlt rfl) rfl rfl rfl rfl ?_
  refine jr.iload_n rfl rfl ?_
  refine jr.dup2 rfl ⟨rfl, rfl⟩ ?_
  obtain ⟨v4, e4⟩ : ∃ z, M 637 ((2 * f) + v1) = z := ⟨_, rfl⟩
  have b4 : (-9223372036854775808) ≤ v4 ∧ v4 ≤ 9223372036854775807 := by rw [← e4]; exact (by have q := hI_M 637 ((2 * f) + v1) (by decide); rw [xri_row rfl rfl] at q; exact q)
  refine jr.lald (i := ((2 * f) + v1)) (x := v4) rfl (nlt rfl) rfl (Nat.le_of_ble_eq_true rfl) (by omega) (by omega) ((ju_c _ _ (by decide)).trans e4) ?_
  refine jr.aload_n rfl rfl ?_
  refine jr.getf (i := 3) (v := .ref 600) rfl rfl (nlt rfl) rfl (nlt rfl) rfl rfl rfl rfl ?_
  refine jr.iload_n rfl rfl ?_
  obtain ⟨v5, e5⟩ : ∃ z, M 600 x = z := ⟨_, rfl⟩
  have b5 : (-1) ≤ v5 ∧ v5 ≤ 400 := by rw [← e5]; exact (by have q := hI_M 600 x (Nat.le_of_ble_eq_true rfl); rw [xri_row rfl rfl] at q; exact q)
  refine jr.iald (i := x) (x := v5) rfl (nlt rfl) rfl (Nat.le_of_ble_eq_true rfl) (by omega) (by omega) ((ju_c _ _ (by decide)).trans e5) ?_
  refine jr.i2l rfl (by omega) ?_
  refine jr.ladd rfl ?_
  refine jr.lw (jl_w (v4 + v5)) (jl_w_eq _) ?_
  have b6 : -9223372036854775808 ≤ jl_w (v4 + v5) ∧ jl_w (v4 + v5) ≤ 9223372036854775807 := jbl_any _
  refine jr.last (i := ((2 * f) + v1)) (x := (jl_w (v4 + v5))) rfl (nlt rfl) rfl (Nat.le_of_ble_eq_true rfl) (by omega) (by omega) ?_
  refine jr.aload_n rfl rfl ?_
  refine jr.getf (i := 46) (v := .ref 634) rfl rfl (nlt rfl) rfl (nlt rfl) rfl rfl rfl rfl ?_
  refine jr.iload_n rfl rfl ?_
  refine jr.iconst rfl ?_
  refine jr.zast (i := ((2 * f) + v1)) (x := 1) rfl (nlt rfl) rfl (Nat.le_of_ble_eq_true rfl) (by omega) (by omega) (j_zn (by omega)) ?_
  refine jr.aload_n rfl rfl ?_
  refine jr.getf (i := 41) (v := .ref 629) rfl rfl (nlt rfl) rfl (nlt rfl) rfl rfl rfl rfl ?_
  refine jr.iload_n rfl rfl ?_
  obtain ⟨v7, e7⟩ : ∃ z, M 629 f = z := ⟨_, rfl⟩
  have b7 : 0 ≤ v7 ∧ v7 ≤ 255 := by rw [← e7]; exact (by have q := hI_M 629 f (Nat.le_of_ble_eq_true rfl); rw [xri_row rfl rfl] at q; exact q)
  refine jr.iald (i := f) (x := v7) rfl (nlt rfl) rfl (Nat.le_of_ble_eq_true rfl) (by omega) (by omega) ((ju_c _ _ (by decide)).trans ((ju_c _ _ (by decide)).trans ((ju_c _ _ (by decide)).trans e7))) ?_
  refine jr.bipush rfl (jbp _ (nlt rfl)) ?_
  refine jr.icmp_eq rfl rfl (by first | (refine rgb (by assumption) ?_; exact rfl) | omega) (rgl rfl) (fun h50 => ?_) (fun h50 => ?_)
  · refine jr.aload_n rfl rfl ?_
    refine jr.iload_n rfl rfl ?_
    refine jr.aload_n rfl rfl ?_
    refine jr.getf (i := 8) (v := .ref 604) rfl rfl (nlt rfl) rfl (nlt rfl) rfl rfl rfl rfl ?_
    refine jr.aload_n rfl rfl ?_
    refine jr.getf (i := 65) (x := ea) (v := .int (Int32.ofInt (ea))) rfl rfl (nlt rfl) rfl (nlt rfl) rfl rfl ((ju_c _ _ (by decide)).trans ((ju_c _ _ (by decide)).trans ((ju_c _ _ (by decide)).trans hea))) rfl ?_
    obtain ⟨v8, e8⟩ : ∃ z, M 604 ea = z := ⟨_, rfl⟩
    have b8 : 0 ≤ v8 ∧ v8 ≤ 400 := by rw [← e8]; exact (by have q := hI_M 604 ea (Nat.le_of_ble_eq_true rfl); rw [xri_row rfl rfl] at q; exact q)
    refine jr.iald (i := ea) (x := v8) rfl (nlt rfl) rfl (Nat.le_of_ble_eq_true rfl) (by omega) (by omega) ((ju_c _ _ (by decide)).trans ((ju_c _ _ (by decide)).trans ((ju_c _ _ (by decide)).trans e8))) ?_
    refine jr.iconst rfl ?_
    refine jr.iadd rfl ?_
    refine jr_v rfl rfl (Or.inl rfl) rfl rfl (nlt rfl) rfl ⟨rfl, Nat.le_of_ble_eq_true rfl, Nat.le_of_ble_eq_true rfl⟩ rfl (jc.deep (r_four_x (RI.u (RI.u (RI.u hI_M (a := 636) (i := ((2 * f) + v1)) (by rw [xri_row rfl rfl]; show (-9223372036854775808 : Int) ≤ _ ∧ _ ≤ (9223372036854775807 : Int); omega)) (a := 637) (i := ((2 * f) + v1)) (by rw [xri_row rfl rfl]; show (-9223372036854775808 : Int) ≤ _ ∧ _ ≤ (9223372036854775807 : Int); omega)) (a := 634) (i := ((2 * f) + v1)) (by rw [xri_row rfl rfl]; show (0 : Int) ≤ _ ∧ _ ≤ (1 : Int); omega)) (RH.o (RH.o (RH.o hH_M (by decide) (by decide) (by decide)) (by decide) (by decide) (by decide)) (by decide) (by decide) (by decide)) (RF.o (RF.o (RF.o hS_M (by decide) (by decide)) (by decide) (by decide)) (by decide) (by decide))  (by omega) (by omega)  (fun r9 z9 w9_0 => ?_)) (Nat.le_of_ble_eq_true rfl))
    refine jr.l2i rfl ?_
    refine jr.iw (j_w r9) (j_w_eq _) ?_
    have b10 : -2147483648 ≤ j_w r9 ∧ j_w r9 ≤ 2147483647 := jb_any _
    refine jr.aload_n rfl rfl ?_
    refine jr.iload_n rfl rfl ?_
    refine jr_v rfl rfl (Or.inl rfl) rfl rfl (nlt rfl) rfl ⟨rfl, Nat.le_of_ble_eq_true rfl, Nat.le_of_ble_eq_true rfl⟩ rfl (jc.deep (r_longOf_x (RI.u (RI.u (RI.u hI_M (a := 636) (i := ((2 * f) + v1)) (by rw [xri_row rfl rfl]; show (-9223372036854775808 : Int) ≤ _ ∧ _ ≤ (9223372036854775807 : Int); omega)) (a := 637) (i := ((2 * f) + v1)) (by rw [xri_row rfl rfl]; show (-9223372036854775808 : Int) ≤ _ ∧ _ ≤ (9223372036854775807 : Int); omega)) (a := 634) (i := ((2 * f) + v1)) (by rw [xri_row rfl rfl]; show (0 : Int) ≤ _ ∧ _ ≤ (1 : Int); omega)) (RH.o (RH.o (RH.o hH_M (by decide) (by decide) (by decide)) (by decide) (by decide) (by decide)) (by decide) (by decide) (by decide)) (RF.o (RF.o (RF.o hS_M (by decide) (by decide)) (by decide) (by decide)) (by decide) (by decide))  (by omega) (by rw [((ju_c _ _ (by decide)).trans ((ju_c _ _ (by decide)).trans ((ju_c _ _ (by decide)).trans hea)))]; omega) (by rw [((ju_c _ _ (by decide)).trans ((ju_c _ _ (by decide)).trans ((ju_c _ _ (by decide)).trans hea))), ((ju_c _ _ (by decide)).trans ((ju_c _ _ (by decide)).trans ((ju_c _ _ (by decide)).trans e8)))]; omega) (fun r11 z11 w11_0 => ?_)) (Nat.le_of_ble_eq_true rfl))
    refine jr.iadd rfl ?_
    refine jr.iw (j_w ((j_w r9) + r11)) (j_w_eq _) ?_
    have b12 : -2147483648 ≤ j_w ((j_w r9) + r11) ∧ j_w ((j_w r9) + r11) ≤ 2147483647 := jb_any _
    refine jr.istore (ls' := [_, _, _, _, _]) rfl (nlt rfl) rfl ?_
    refine jr.aload_n rfl rfl ?_
    refine jr.getf (i := 44) (v := .ref 632) rfl rfl (nlt rfl) rfl (nlt rfl) rfl rfl rfl rfl ?_
    refine jr.iload_n rfl rfl ?_
    obtain ⟨v13, e13⟩ : ∃ z, M 632 ((2 * f) + v1) = z := ⟨_, rfl⟩
    have b13 : 0 ≤ v13 ∧ v13 ≤ 1 := by rw [← e13]; exact (by have q := hI_M 632 ((2 * f) + v1) (by decide); rw [xri_row rfl rfl] at q; exact q)
    refine jr.zald (i := ((2 * f) + v1)) (x := v13) rfl (nlt rfl) rfl (Nat.le_of_ble_eq_true rfl) (by omega) (by omega) ((ju_c _ _ (by decide)).trans ((ju_c _ _ (by decide)).trans ((ju_c _ _ (by decide)).trans e13))) ?_
    refine jr.if_eq rfl rfl (by first | (refine rgb (by assumption) ?_; exact rfl) | omega) (fun h85 => ?_) (fun h85 => ?_)
    · refine jr.aload_n rfl rfl ?_
      refine jr.getf (i := 45) (v := .ref 633) rfl rfl (nlt rfl) rfl (nlt rfl) rfl rfl rfl rfl ?_
      refine jr.iload_n rfl rfl ?_
      refine jr.iload rfl rfl ?_
      refine jr.iast (i := ((2 * f) + v1)) (x := (j_w ((j_w r9) + r11))) rfl (nlt rfl) rfl (Nat.le_of_ble_eq_true rfl) (by omega) (by omega) ?_
      refine jr.aload_n rfl rfl ?_
      refine jr.getf (i := 44) (v := .ref 632) rfl rfl (nlt rfl) rfl (nlt rfl) rfl rfl rfl rfl ?_
      refine jr.iload_n rfl rfl ?_
      refine jr.iconst rfl ?_
      refine jr.zast (i := ((2 * f) + v1)) (x := 1) rfl (nlt rfl) rfl (Nat.le_of_ble_eq_true rfl) (by omega) (by omega) (j_zn (by omega)) ?_
      refine jr.aload_n rfl rfl ?_
      refine jr.getf (i := 47) (v := .ref 635) rfl rfl (nlt rfl) rfl (nlt rfl) rfl rfl rfl rfl ?_
      refine jr.iload_n rfl rfl ?_
      refine jr.aload_n rfl rfl ?_
      refine jr.iload_n rfl rfl ?_
      refine jr.aload_n rfl rfl ?_
      refine jr.getf (i := 8) (v := .ref 604) rfl rfl (nlt rfl) rfl (nlt rfl) rfl rfl rfl rfl ?_
      refine jr.aload_n rfl rfl ?_
      refine jr.getf (i := 65) (x := ea) (v := .int (Int32.ofInt (ea))) rfl rfl (nlt rfl) rfl (nlt rfl) rfl rfl ((ju_c _ _ (by decide)).trans ((ju_c _ _ (by decide)).trans ((ju_c _ _ (by decide)).trans ((ju_c _ _ (by decide)).trans ((ju_c _ _ (by decide)).trans hea))))) rfl ?_
      refine jr.iald (i := ea) (x := v8) rfl (nlt rfl) rfl (Nat.le_of_ble_eq_true rfl) (by omega) (by omega) ((ju_c _ _ (by decide)).trans ((ju_c _ _ (by decide)).trans ((ju_c _ _ (by decide)).trans ((ju_c _ _ (by decide)).trans ((ju_c _ _ (by decide)).trans e8))))) ?_
      refine jr.bipush rfl (jbp _ (nlt rfl)) ?_
      refine jr.iadd rfl ?_
      refine jr_v rfl rfl (Or.inl rfl) rfl rfl (nlt rfl) rfl ⟨rfl, Nat.le_of_ble_eq_true rfl, Nat.le_of_ble_eq_true rfl⟩ rfl (jc.deep (r_two_x (RI.u (RI.u (RI.u (RI.u (RI.u hI_M (a := 636) (i := ((2 * f) + v1)) (by rw [xri_row rfl rfl]; show (-9223372036854775808 : Int) ≤ _ ∧ _ ≤ (9223372036854775807 : Int); omega)) (a := 637) (i := ((2 * f) + v1)) (by rw [xri_row rfl rfl]; show (-9223372036854775808 : Int) ≤ _ ∧ _ ≤ (9223372036854775807 : Int); omega)) (a := 634) (i := ((2 * f) + v1)) (by rw [xri_row rfl rfl]; show (0 : Int) ≤ _ ∧ _ ≤ (1 : Int); omega)) (a := 633) (i := ((2 * f) + v1)) (by rw [xri_row rfl rfl]; show (-2147483648 : Int) ≤ _ ∧ _ ≤ (2147483647 : Int); omega)) (a := 632) (i := ((2 * f) + v1)) (by rw [xri_row rfl rfl]; show (0 : Int) ≤ _ ∧ _ ≤ (1 : Int); omega)) (RH.o (RH.o (RH.o (RH.o (RH.o hH_M (by decide) (by decide) (by decide)) (by decide) (by decide) (by decide)) (by decide) (by decide) (by decide)) (by decide) (by decide) (by decide)) (by decide) (by decide) (by decide)) (RF.o (RF.o (RF.o (RF.o (RF.o hS_M (by decide) (by decide)) (by decide) (by decide)) (by decide) (by decide)) (by decide) (by decide)) (by decide) (by decide))  (by omega) (by omega)  (fun r14 z14 w14_0 => ?_)) (Nat.le_of_ble_eq_true rfl))
      refine jr.iast (i := ((2 * f) + v1)) (x := r14) rfl (nlt rfl) rfl (Nat.le_of_ble_eq_true rfl) (by omega) (by omega) ?_
      exact jr.vreturn rfl rfl (q _ (RI.u (RI.u (RI.u (RI.u (RI.u (RI.u hI_M (a := 636) (i := ((2 * f) + v1)) (by rw [xri_row rfl rfl]; show (-9223372036854775808 : Int) ≤ _ ∧ _ ≤ (9223372036854775807 : Int); omega)) (a := 637) (i := ((2 * f) + v1)) (by rw [xri_row rfl rfl]; show (-9223372036854775808 : Int) ≤ _ ∧ _ ≤ (9223372036854775807 : Int); omega)) (a := 634) (i := ((2 * f) + v1)) (by rw [xri_row rfl rfl]; show (0 : Int) ≤ _ ∧ _ ≤ (1 : Int); omega)) (a := 633) (i := ((2 * f) + v1)) (by rw [xri_row rfl rfl]; show (-2147483648 : Int) ≤ _ ∧ _ ≤ (2147483647 : Int); omega)) (a := 632) (i := ((2 * f) + v1)) (by rw [xri_row rfl rfl]; show (0 : Int) ≤ _ ∧ _ ≤ (1 : Int); omega)) (a := 635) (i := ((2 * f) + v1)) (by rw [xri_row rfl rfl]; show (0 : Int) ≤ _ ∧ _ ≤ (65535 : Int); omega)) (RH.o (RH.o (RH.o (RH.o (RH.o (RH.o hH_M (by decide) (by decide) (by decide)) (by decide) (by decide) (by decide)) (by decide) (by decide) (by decide)) (by decide) (by decide) (by decide)) (by decide) (by decide) (by decide)) (by decide) (by decide) (by decide)) (RF.o (RF.o (RF.o (RF.o (RF.o (RF.o hS_M (by decide) (by decide)) (by decide) (by decide)) (by decide) (by decide)) (by decide) (by decide)) (by decide) (by decide)) (by decide) (by decide))  (by rw [e1]; have hc0 : (ju (ju (ju M 636 ((2 * f) + v1) (jl_w (v2 + 1))) 637 ((2 * f) + v1) (jl_w (v4 + v5))) 634 ((2 * f) + v1) 1) = ct0 M x (2 * f + v1) := (by unfold ct0; rw [e2, e4, e5]); have hr3 : rf ((ju (ju (ju M 636 ((2 * f) + v1) (jl_w (v2 + 1))) 637 ((2 * f) + v1) (jl_w (v4 + v5))) 634 ((2 * f) + v1) 1)) x = rf M x := rf_e (fun i => by rw [ju_c _ _ (by decide), ju_c _ _ (by decide), ju_c _ _ (by decide)]); have hE : ctE M x = j_w (j_w r9 + r11) := (by unfold ctE sq6; rw [hea, e8, ← hr3, ← w9_0, ← lg6_e (M1 := (ju (ju (ju M 636 ((2 * f) + v1) (jl_w (v2 + 1))) 637 ((2 * f) + v1) (jl_w (v4 + v5))) 634 ((2 * f) + v1) 1)) x (fun i => by rw [ju_c _ _ (by decide), ju_c _ _ (by decide), ju_c _ _ (by decide)]) (fun i => by rw [ju_c _ _ (by decide), ju_c _ _ (by decide), ju_c _ _ (by decide)]) (fun i => by rw [ju_c _ _ (by decide), ju_c _ _ (by decide), ju_c _ _ (by decide)]) (fun i => by rw [ju_c _ _ (by decide), ju_c _ _ (by decide), ju_c _ _ (by decide)]) (fun i => by rw [ju_c _ _ (by decide), ju_c _ _ (by decide), ju_c _ _ (by decide)]), ← w11_0]); have hW : tw (rf M x) (M 604 (M 598 65) + 14) = r14 := (by rw [hea, e8, ← rf_e (M := M) (M' := (ju (ju (ju (ju (ju M 636 ((2 * f) + v1) (jl_w (v2 + 1))) 637 ((2 * f) + v1) (jl_w (v4 + v5))) 634 ((2 * f) + v1) 1) 633 ((2 * f) + v1) (j_w ((j_w r9) + r11))) 632 ((2 * f) + v1) 1)) (fun i => by rw [ju_c _ _ (by decide), ju_c _ _ (by decide), ju_c _ _ (by decide), ju_c _ _ (by decide), ju_c _ _ (by decide)]), ← w14_0]); exact Or.inr (Or.inr ⟨by rw [e7]; omega, (fun u => by have u1 := u.1; have u2 := u.2; rw [e13] at u1; omega), by rw [hW, hE, hc0]⟩)) (fun a i f632 f633 f634 f635 f636 f637 => ((ju_c _ _ f635).trans ((ju_c _ _ f632).trans ((ju_c _ _ f633).trans ((ju_c _ _ f634).trans ((ju_c _ _ f637).trans ((ju_c _ _ f636).trans rfl))))))))
    · have sx85 : (1 : Int) ≤ v13 := by omega
      clear h85
      refine jr.iload rfl rfl ?_
      refine jr.aload_n rfl rfl ?_
      refine jr.getf (i := 45) (v := .ref 633) rfl rfl (nlt rfl) rfl (nlt rfl) rfl rfl rfl rfl ?_
      refine jr.iload_n rfl rfl ?_
      obtain ⟨v15, e15⟩ : ∃ z, M 633 ((2 * f) + v1) = z := ⟨_, rfl⟩
      have b15 : (-2147483648) ≤ v15 ∧ v15 ≤ 2147483647 := by rw [← e15]; exact (by have q := hI_M 633 ((2 * f) + v1) (by decide); rw [xri_row rfl rfl] at q; exact q)
      refine jr.iald (i := ((2 * f) + v1)) (x := v15) rfl (nlt rfl) rfl (Nat.le_of_ble_eq_true rfl) (by omega) (by omega) ((ju_c _ _ (by decide)).trans ((ju_c _ _ (by decide)).trans ((ju_c _ _ (by decide)).trans e15))) ?_
      refine jr.isub rfl ?_
      refine jr.iw (j_w ((j_w ((j_w r9) + r11)) - v15)) (j_w_eq _) ?_
      have b16 : -2147483648 ≤ j_w ((j_w ((j_w r9) + r11)) - v15) ∧ j_w ((j_w ((j_w r9) + r11)) - v15) ≤ 2147483647 := jb_any _
      refine jr.if_le rfl rfl (by first | (refine rgb (by assumption) ?_; exact rfl) | omega) (fun h97 => ?_) (fun h97 => ?_)
      · refine jr.aload_n rfl rfl ?_
        refine jr.getf (i := 44) (v := .ref 632) rfl rfl (nlt rfl) rfl (nlt rfl) rfl rfl rfl rfl ?_
        refine jr.iload_n rfl rfl ?_
        refine jr.iconst rfl ?_
        refine jr.zast (i := ((2 * f) + v1)) (x := 1) rfl (nlt rfl) rfl (Nat.le_of_ble_eq_true rfl) (by omega) (by omega) (j_zn (by omega)) ?_
        refine jr.aload_n rfl rfl ?_
        refine jr.getf (i := 47) (v := .ref 635) rfl rfl (nlt rfl) rfl (nlt rfl) rfl rfl rfl rfl ?_
        refine jr.iload_n rfl rfl ?_
        refine jr.aload_n rfl rfl ?_
        refine jr.iload_n rfl rfl ?_
        refine jr.aload_n rfl rfl ?_
        refine jr.getf (i := 8) (v := .ref 604) rfl rfl (nlt rfl) rfl (nlt rfl) rfl rfl rfl rfl ?_
        refine jr.aload_n rfl rfl ?_
        refine jr.getf (i := 65) (x := ea) (v := .int (Int32.ofInt (ea))) rfl rfl (nlt rfl) rfl (nlt rfl) rfl rfl ((ju_c _ _ (by decide)).trans ((ju_c _ _ (by decide)).trans ((ju_c _ _ (by decide)).trans ((ju_c _ _ (by decide)).trans hea)))) rfl ?_
        refine jr.iald (i := ea) (x := v8) rfl (nlt rfl) rfl (Nat.le_of_ble_eq_true rfl) (by omega) (by omega) ((ju_c _ _ (by decide)).trans ((ju_c _ _ (by decide)).trans ((ju_c _ _ (by decide)).trans ((ju_c _ _ (by decide)).trans e8)))) ?_
        refine jr.bipush rfl (jbp _ (nlt rfl)) ?_
        refine jr.iadd rfl ?_
        refine jr_v rfl rfl (Or.inl rfl) rfl rfl (nlt rfl) rfl ⟨rfl, Nat.le_of_ble_eq_true rfl, Nat.le_of_ble_eq_true rfl⟩ rfl (jc.deep (r_two_x (RI.u (RI.u (RI.u (RI.u hI_M (a := 636) (i := ((2 * f) + v1)) (by rw [xri_row rfl rfl]; show (-9223372036854775808 : Int) ≤ _ ∧ _ ≤ (9223372036854775807 : Int); omega)) (a := 637) (i := ((2 * f) + v1)) (by rw [xri_row rfl rfl]; show (-9223372036854775808 : Int) ≤ _ ∧ _ ≤ (9223372036854775807 : Int); omega)) (a := 634) (i := ((2 * f) + v1)) (by rw [xri_row rfl rfl]; show (0 : Int) ≤ _ ∧ _ ≤ (1 : Int); omega)) (a := 632) (i := ((2 * f) + v1)) (by rw [xri_row rfl rfl]; show (0 : Int) ≤ _ ∧ _ ≤ (1 : Int); omega)) (RH.o (RH.o (RH.o (RH.o hH_M (by decide) (by decide) (by decide)) (by decide) (by decide) (by decide)) (by decide) (by decide) (by decide)) (by decide) (by decide) (by decide)) (RF.o (RF.o (RF.o (RF.o hS_M (by decide) (by decide)) (by decide) (by decide)) (by decide) (by decide)) (by decide) (by decide))  (by omega) (by omega)  (fun r17 z17 w17_0 => ?_)) (Nat.le_of_ble_eq_true rfl))
        refine jr.iast (i := ((2 * f) + v1)) (x := r17) rfl (nlt rfl) rfl (Nat.le_of_ble_eq_true rfl) (by omega) (by omega) ?_
        exact jr.vreturn rfl rfl (q _ (RI.u (RI.u (RI.u (RI.u (RI.u hI_M (a := 636) (i := ((2 * f) + v1)) (by rw [xri_row rfl rfl]; show (-9223372036854775808 : Int) ≤ _ ∧ _ ≤ (9223372036854775807 : Int); omega)) (a := 637) (i := ((2 * f) + v1)) (by rw [xri_row rfl rfl]; show (-9223372036854775808 : Int) ≤ _ ∧ _ ≤ (9223372036854775807 : Int); omega)) (a := 634) (i := ((2 * f) + v1)) (by rw [xri_row rfl rfl]; show (0 : Int) ≤ _ ∧ _ ≤ (1 : Int); omega)) (a := 632) (i := ((2 * f) + v1)) (by rw [xri_row rfl rfl]; show (0 : Int) ≤ _ ∧ _ ≤ (1 : Int); omega)) (a := 635) (i := ((2 * f) + v1)) (by rw [xri_row rfl rfl]; show (0 : Int) ≤ _ ∧ _ ≤ (65535 : Int); omega)) (RH.o (RH.o (RH.o (RH.o (RH.o hH_M (by decide) (by decide) (by decide)) (by decide) (by decide) (by decide)) (by decide) (by decide) (by decide)) (by decide) (by decide) (by decide)) (by decide) (by decide) (by decide)) (RF.o (RF.o (RF.o (RF.o (RF.o hS_M (by decide) (by decide)) (by decide) (by decide)) (by decide) (by decide)) (by decide) (by decide)) (by decide) (by decide))  (by rw [e1]; have hc0 : (ju (ju (ju M 636 ((2 * f) + v1) (jl_w (v2 + 1))) 637 ((2 * f) + v1) (jl_w (v4 + v5))) 634 ((2 * f) + v1) 1) = ct0 M x (2 * f + v1) := (by unfold ct0; rw [e2, e4, e5]); have hr3 : rf ((ju (ju (ju M 636 ((2 * f) + v1) (jl_w (v2 + 1))) 637 ((2 * f) + v1) (jl_w (v4 + v5))) 634 ((2 * f) + v1) 1)) x = rf M x := rf_e (fun i => by rw [ju_c _ _ (by decide), ju_c _ _ (by decide), ju_c _ _ (by decide)]); have hE : ctE M x = j_w (j_w r9 + r11) := (by unfold ctE sq6; rw [hea, e8, ← hr3, ← w9_0, ← lg6_e (M1 := (ju (ju (ju M 636 ((2 * f) + v1) (jl_w (v2 + 1))) 637 ((2 * f) + v1) (jl_w (v4 + v5))) 634 ((2 * f) + v1) 1)) x (fun i => by rw [ju_c _ _ (by decide), ju_c _ _ (by decide), ju_c _ _ (by decide)]) (fun i => by rw [ju_c _ _ (by decide), ju_c _ _ (by decide), ju_c _ _ (by decide)]) (fun i => by rw [ju_c _ _ (by decide), ju_c _ _ (by decide), ju_c _ _ (by decide)]) (fun i => by rw [ju_c _ _ (by decide), ju_c _ _ (by decide), ju_c _ _ (by decide)]) (fun i => by rw [ju_c _ _ (by decide), ju_c _ _ (by decide), ju_c _ _ (by decide)]), ← w11_0]); have hW : tw (rf M x) (M 604 (M 598 65) + 14) = r17 := (by rw [hea, e8, ← rf_e (M := M) (M' := (ju (ju (ju (ju M 636 ((2 * f) + v1) (jl_w (v2 + 1))) 637 ((2 * f) + v1) (jl_w (v4 + v5))) 634 ((2 * f) + v1) 1) 632 ((2 * f) + v1) 1)) (fun i => by rw [ju_c _ _ (by decide), ju_c _ _ (by decide), ju_c _ _ (by decide), ju_c _ _ (by decide)]), ← w17_0]); exact Or.inr (Or.inl ⟨by rw [e7]; omega, ⟨by rw [e13]; omega, by rw [hE, e15]; omega⟩, by rw [hW, hc0]⟩)) (fun a i f632 f633 f634 f635 f636 f637 => ((ju_c _ _ f635).trans ((ju_c _ _ f632).trans ((ju_c _ _ f634).trans ((ju_c _ _ f637).trans ((ju_c _ _ f636).trans rfl)))))))
      · refine jr.aload_n rfl rfl ?_
        refine jr.getf (i := 45) (v := .ref 633) rfl rfl (nlt rfl) rfl (nlt rfl) rfl rfl rfl rfl ?_
        refine jr.iload_n rfl rfl ?_
        refine jr.iload rfl rfl ?_
        refine jr.iast (i := ((2 * f) + v1)) (x := (j_w ((j_w r9) + r11))) rfl (nlt rfl) rfl (Nat.le_of_ble_eq_true rfl) (by omega) (by omega) ?_
        refine jr.aload_n rfl rfl ?_
        refine jr.getf (i := 44) (v := .ref 632) rfl rfl (nlt rfl) rfl (nlt rfl) rfl rfl rfl rfl ?_
        refine jr.iload_n rfl rfl ?_
        refine jr.iconst rfl ?_
        refine jr.zast (i := ((2 * f) + v1)) (x := 1) rfl (nlt rfl) rfl (Nat.le_of_ble_eq_true rfl) (by omega) (by omega) (j_zn (by omega)) ?_
        refine jr.aload_n rfl rfl ?_
        refine jr.getf (i := 47) (v := .ref 635) rfl rfl (nlt rfl) rfl (nlt rfl) rfl rfl rfl rfl ?_
        refine jr.iload_n rfl rfl ?_
        refine jr.aload_n rfl rfl ?_
        refine jr.iload_n rfl rfl ?_
        refine jr.aload_n rfl rfl ?_
        refine jr.getf (i := 8) (v := .ref 604) rfl rfl (nlt rfl) rfl (nlt rfl) rfl rfl rfl rfl ?_
        refine jr.aload_n rfl rfl ?_
        refine jr.getf (i := 65) (x := ea) (v := .int (Int32.ofInt (ea))) rfl rfl (nlt rfl) rfl (nlt rfl) rfl rfl ((ju_c _ _ (by decide)).trans ((ju_c _ _ (by decide)).trans ((ju_c _ _ (by decide)).trans ((ju_c _ _ (by decide)).trans ((ju_c _ _ (by decide)).trans hea))))) rfl ?_
        refine jr.iald (i := ea) (x := v8) rfl (nlt rfl) rfl (Nat.le_of_ble_eq_true rfl) (by omega) (by omega) ((ju_c _ _ (by decide)).trans ((ju_c _ _ (by decide)).trans ((ju_c _ _ (by decide)).trans ((ju_c _ _ (by decide)).trans ((ju_c _ _ (by decide)).trans e8))))) ?_
        refine jr.bipush rfl (jbp _ (nlt rfl)) ?_
        refine jr.iadd rfl ?_
        refine jr_v rfl rfl (Or.inl rfl) rfl rfl (nlt rfl) rfl ⟨rfl, Nat.le_of_ble_eq_true rfl, Nat.le_of_ble_eq_true rfl⟩ rfl (jc.deep (r_two_x (RI.u (RI.u (RI.u (RI.u (RI.u hI_M (a := 636) (i := ((2 * f) + v1)) (by rw [xri_row rfl rfl]; show (-9223372036854775808 : Int) ≤ _ ∧ _ ≤ (9223372036854775807 : Int); omega)) (a := 637) (i := ((2 * f) + v1)) (by rw [xri_row rfl rfl]; show (-9223372036854775808 : Int) ≤ _ ∧ _ ≤ (9223372036854775807 : Int); omega)) (a := 634) (i := ((2 * f) + v1)) (by rw [xri_row rfl rfl]; show (0 : Int) ≤ _ ∧ _ ≤ (1 : Int); omega)) (a := 633) (i := ((2 * f) + v1)) (by rw [xri_row rfl rfl]; show (-2147483648 : Int) ≤ _ ∧ _ ≤ (2147483647 : Int); omega)) (a := 632) (i := ((2 * f) + v1)) (by rw [xri_row rfl rfl]; show (0 : Int) ≤ _ ∧ _ ≤ (1 : Int); omega)) (RH.o (RH.o (RH.o (RH.o (RH.o hH_M (by decide) (by decide) (by decide)) (by decide) (by decide) (by decide)) (by decide) (by decide) (by decide)) (by decide) (by decide) (by decide)) (by decide) (by decide) (by decide)) (RF.o (RF.o (RF.o (RF.o (RF.o hS_M (by decide) (by decide)) (by decide) (by decide)) (by decide) (by decide)) (by decide) (by decide)) (by decide) (by decide))  (by omega) (by omega)  (fun r18 z18 w18_0 => ?_)) (Nat.le_of_ble_eq_true rfl))
        refine jr.iast (i := ((2 * f) + v1)) (x := r18) rfl (nlt rfl) rfl (Nat.le_of_ble_eq_true rfl) (by omega) (by omega) ?_
        exact jr.vreturn rfl rfl (q _ (RI.u (RI.u (RI.u (RI.u (RI.u (RI.u hI_M (a := 636) (i := ((2 * f) + v1)) (by rw [xri_row rfl rfl]; show (-9223372036854775808 : Int) ≤ _ ∧ _ ≤ (9223372036854775807 : Int); omega)) (a := 637) (i := ((2 * f) + v1)) (by rw [xri_row rfl rfl]; show (-9223372036854775808 : Int) ≤ _ ∧ _ ≤ (9223372036854775807 : Int); omega)) (a := 634) (i := ((2 * f) + v1)) (by rw [xri_row rfl rfl]; show (0 : Int) ≤ _ ∧ _ ≤ (1 : Int); omega)) (a := 633) (i := ((2 * f) + v1)) (by rw [xri_row rfl rfl]; show (-2147483648 : Int) ≤ _ ∧ _ ≤ (2147483647 : Int); omega)) (a := 632) (i := ((2 * f) + v1)) (by rw [xri_row rfl rfl]; show (0 : Int) ≤ _ ∧ _ ≤ (1 : Int); omega)) (a := 635) (i := ((2 * f) + v1)) (by rw [xri_row rfl rfl]; show (0 : Int) ≤ _ ∧ _ ≤ (65535 : Int); omega)) (RH.o (RH.o (RH.o (RH.o (RH.o (RH.o hH_M (by decide) (by decide) (by decide)) (by decide) (by decide) (by decide)) (by decide) (by decide) (by decide)) (by decide) (by decide) (by decide)) (by decide) (by decide) (by decide)) (by decide) (by decide) (by decide)) (RF.o (RF.o (RF.o (RF.o (RF.o (RF.o hS_M (by decide) (by decide)) (by decide) (by decide)) (by decide) (by decide)) (by decide) (by decide)) (by decide) (by decide)) (by decide) (by decide))  (by rw [e1]; have hc0 : (ju (ju (ju M 636 ((2 * f) + v1) (jl_w (v2 + 1))) 637 ((2 * f) + v1) (jl_w (v4 + v5))) 634 ((2 * f) + v1) 1) = ct0 M x (2 * f + v1) := (by unfold ct0; rw [e2, e4, e5]); have hr3 : rf ((ju (ju (ju M 636 ((2 * f) + v1) (jl_w (v2 + 1))) 637 ((2 * f) + v1) (jl_w (v4 + v5))) 634 ((2 * f) + v1) 1)) x = rf M x := rf_e (fun i => by rw [ju_c _ _ (by decide), ju_c _ _ (by decide), ju_c _ _ (by decide)]); have hE : ctE M x = j_w (j_w r9 + r11) := (by unfold ctE sq6; rw [hea, e8, ← hr3, ← w9_0, ← lg6_e (M1 := (ju (ju (ju M 636 ((2 * f) + v1) (jl_w (v2 + 1))) 637 ((2 * f) + v1) (jl_w (v4 + v5))) 634 ((2 * f) + v1) 1)) x (fun i => by rw [ju_c _ _ (by decide), ju_c _ _ (by decide), ju_c _ _ (by decide)]) (fun i => by rw [ju_c _ _ (by decide), ju_c _ _ (by decide), ju_c _ _ (by decide)]) (fun i => by rw [ju_c _ _ (by decide), ju_c _ _ (by decide), ju_c _ _ (by decide)]) (fun i => by rw [ju_c _ _ (by decide), ju_c _ _ (by decide), ju_c _ _ (by decide)]) (fun i => by rw [ju_c _ _ (by decide), ju_c _ _ (by decide), ju_c _ _ (by decide)]), ← w11_0]); have hW : tw (rf M x) (M 604 (M 598 65) + 14) = r18 := (by rw [hea, e8, ← rf_e (M := M) (M' := (ju (ju (ju (ju (ju M 636 ((2 * f) + v1) (jl_w (v2 + 1))) 637 ((2 * f) + v1) (jl_w (v4 + v5))) 634 ((2 * f) + v1) 1) 633 ((2 * f) + v1) (j_w ((j_w r9) + r11))) 632 ((2 * f) + v1) 1)) (fun i => by rw [ju_c _ _ (by decide), ju_c _ _ (by decide), ju_c _ _ (by decide), ju_c _ _ (by decide), ju_c _ _ (by decide)]), ← w18_0]); exact Or.inr (Or.inr ⟨by rw [e7]; omega, (fun u => by have u1 := u.1; have u2 := u.2; rw [e13] at u1; (rw [hE, e15] at u2; omega)), by rw [hW, hE, hc0]⟩)) (fun a i f632 f633 f634 f635 f636 f637 => ((ju_c _ _ f635).trans ((ju_c _ _ f632).trans ((ju_c _ _ f633).trans ((ju_c _ _ f634).trans ((ju_c _ _ f637).trans ((ju_c _ _ f636).trans rfl))))))))
  · exact jr.vreturn rfl rfl (q _ (RI.u (RI.u (RI.u hI_M (a := 636) (i := ((2 * f) + v1)) (by rw [xri_row rfl rfl]; show (-9223372036854775808 : Int) ≤ _ ∧ _ ≤ (9223372036854775807 : Int); omega)) (a := 637) (i := ((2 * f) + v1)) (by rw [xri_row rfl rfl]; show (-9223372036854775808 : Int) ≤ _ ∧ _ ≤ (9223372036854775807 : Int); omega)) (a := 634) (i := ((2 * f) + v1)) (by rw [xri_row rfl rfl]; show (0 : Int) ≤ _ ∧ _ ≤ (1 : Int); omega)) (RH.o (RH.o (RH.o hH_M (by decide) (by decide) (by decide)) (by decide) (by decide) (by decide)) (by decide) (by decide) (by decide)) (RF.o (RF.o (RF.o hS_M (by decide) (by decide)) (by decide) (by decide)) (by decide) (by decide))  (by rw [e1]; have hc0 : (ju (ju (ju M 636 ((2 * f) + v1) (jl_w (v2 + 1))) 637 ((2 * f) + v1) (jl_w (v4 + v5))) 634 ((2 * f) + v1) 1) = ct0 M x (2 * f + v1) := (by unfold ct0; rw [e2, e4, e5]); exact Or.inl ⟨by rw [e7]; omega, hc0⟩) (fun a i f632 f633 f634 f635 f636 f637 => ((ju_c _ _ f634).trans ((ju_c _ _ f637).trans ((ju_c _ _ f636).trans rfl)))))
end
