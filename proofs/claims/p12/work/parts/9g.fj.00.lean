section
/-! ===== the class: sorts of a stream, lives, forgetting, gathered ===== -/
theorem jbt0 : ∀ n : Nat, n < 256 → j_and (n : Int) 1 = ((n % 2 : Nat) : Int) ∧ j_and (n : Int) 2 = ((n / 2 % 2 * 2 : Nat) : Int) ∧ j_and (n : Int) 4 = ((n / 4 % 2 * 4 : Nat) : Int) ∧ j_and (n : Int) 16 = ((n / 16 % 2 * 16 : Nat) : Int) := by decide +kernel
theorem jbt {x : Int} (h : 0 ≤ x ∧ x ≤ 255) : j_and x 1 = x % 2 ∧ j_and x 2 = x / 2 % 2 * 2 ∧ j_and x 4 = x / 4 % 2 * 4 ∧ j_and x 16 = x / 16 % 2 * 16 := by
  obtain ⟨n, rfl⟩ := Int.eq_ofNat_of_zero_le h.1
  have q := jbt0 n (by omega)
  refine ⟨?_, ?_, ?_, ?_⟩
  · rw [q.1]; omega
  · rw [q.2.1]; omega
  · rw [q.2.2.1]; omega
  · rw [q.2.2.2]; omega
noncomputable def scf (x : Int) : Int := if x / 4 % 2 = 1 then 3 else if x / 2 % 2 = 1 then (if x / 16 % 2 = 1 then 1 else 0) else if x % 2 = 1 then 2 else if x / 16 % 2 = 1 then 4 else 5
noncomputable def lvf (n s : Int) : Int := if n = 1 then 5 else if n = 17 then (if s = 0 then 15 else 40) else if s = 1 ∨ s = 2 then 10 else if s = 3 then 200 else if s = 6 then 20 else if s = 9 then 8 else if s = 10 then 3 else if 1 ≤ s ∧ s ≤ 10 then 40 else 0
theorem scf_3 {x : Int} (h : x / 4 % 2 = 1) : scf x = 3 := if_pos h
theorem scf_n {x : Int} (h : ¬ x / 4 % 2 = 1) : scf x = if x / 2 % 2 = 1 then (if x / 16 % 2 = 1 then 1 else 0) else if x % 2 = 1 then 2 else if x / 16 % 2 = 1 then 4 else 5 := if_neg h
theorem lvf_o {n s : Int} (h : ¬ n = 1) (g : ¬ n = 17) : lvf n s = if s = 1 ∨ s = 2 then 10 else if s = 3 then 200 else if s = 6 then 20 else if s = 9 then 8 else if s = 10 then 3 else if 1 ≤ s ∧ s ≤ 10 then 40 else 0 := by
  unfold lvf
  rw [if_neg h, if_neg g]
theorem lv0 : ∀ n : Nat, n < 10 → xcv_6 (n : Int) = (if n = 0 ∨ n = 1 then 10 else if n = 2 then 200 else if n = 5 then 20 else if n = 8 then 8 else if n = 9 then 3 else 40) := by decide +kernel
theorem lv1 {n s : Int} (h1 : n ≠ 1) (h2 : n ≠ 17) (hs : 1 ≤ s ∧ s ≤ 10) : xcv_6 (s - 1) = lvf n s := by
  obtain ⟨m, hm⟩ : ∃ m : Nat, s = m + 1 := ⟨(s - 1).toNat, by omega⟩
  subst hm
  rw [show ((m : Int) + 1 - 1) = (m : Int) by omega, lv0 m (by omega)]
  unfold lvf
  rw [if_neg h1, if_neg h2]
  (repeat' split) <;> omega
theorem c_Flow_streamClass_x {A : Nat → Option (Nat × (Nat → Int32))} {Q : Option Value → jm → Prop} {M : jm} (hC_M : CI M) {x : Int} (h_x : 0 ≤ x ∧ x ≤ 255) (q : ∀ (r : Int), 0 ≤ r ∧ r ≤ 5 → (r = scf x) → Q (some (.int (Int32.ofInt r))) M) : jc A 1 70 [.int (Int32.ofInt (x))] M Q := by
  refine jc_of (m := xm_70) rfl (Nat.le_of_ble_eq_true rfl) rfl ?_
  refine jr.iload_n rfl rfl ?_
  refine jr.bipush rfl (by decide) ?_
  refine jr.iand rfl ?_
  have b1 : j_and x 16 = x / 16 % 2 * 16 ∧ 0 ≤ j_and x 16 ∧ j_and x 16 ≤ 16 := ⟨(jbt (by omega)).2.2.2, by rw [(jbt (by omega)).2.2.2]; omega⟩
  generalize j_and x 16 = v1 at b1 ⊢
  refine jr.if_eq rfl rfl (by omega) (fun h4 => ?_) (fun h4 => ?_)
  · refine jr.iconst rfl ?_
    refine jr.istore_n (ls' := [_, _]) rfl (by decide) rfl ?_
    refine jr.iload_n rfl rfl ?_
    refine jr.iconst rfl ?_
    refine jr.iand rfl ?_
    have b2 : j_and x 4 = x / 4 % 2 * 4 ∧ 0 ≤ j_and x 4 ∧ j_and x 4 ≤ 16 := ⟨(jbt (by omega)).2.2.1, by rw [(jbt (by omega)).2.2.1]; omega⟩
    generalize j_and x 4 = v2 at b2 ⊢
    refine jr.if_eq rfl rfl (by omega) (fun h16 => ?_) (fun h16 => ?_)
    · refine jr.iload_n rfl rfl ?_
      refine jr.iconst rfl ?_
      refine jr.iand rfl ?_
      have b3 : j_and x 2 = x / 2 % 2 * 2 ∧ 0 ≤ j_and x 2 ∧ j_and x 2 ≤ 16 := ⟨(jbt (by omega)).2.1, by rw [(jbt (by omega)).2.1]; omega⟩
      generalize j_and x 2 = v3 at b3 ⊢
      refine jr.if_eq rfl rfl (by omega) (fun h24 => ?_) (fun h24 => ?_)
      · refine jr.iload_n rfl rfl ?_
        refine jr.iconst rfl ?_
        refine jr.iand rfl ?_
        have b4 : j_and x 1 = x % 2 ∧ 0 ≤ j_and x 1 ∧ j_and x 1 ≤ 16 := ⟨(jbt (by omega)).1, by rw [(jbt (by omega)).1]; omega⟩
        generalize j_and x 1 = v4 at b4 ⊢
        refine jr.if_eq rfl rfl (by omega) (fun h40 => ?_) (fun h40 => ?_)
        · refine jr.iload_n rfl rfl ?_
          refine jr.if_eq rfl rfl (by omega) (fun _ => ?_) (fun h => absurd (by decide) h)
          refine jr.iconst rfl ?_
          exact jr.ireturn rfl rfl rfl (q _ (by omega) (by rw [scf_n (by omega), if_neg (by omega), if_neg (by omega), if_neg (by omega)]))
        · have sx40 : (1 : Int) ≤ v4 := by omega
          clear h40
          refine jr.iconst rfl ?_
          exact jr.ireturn rfl rfl rfl (q _ (by omega) (by rw [scf_n (by omega), if_neg (by omega), if_pos (by omega)]))
      · have sx24 : (1 : Int) ≤ v3 := by omega
        clear h24
        refine jr.iload_n rfl rfl ?_
        refine jr.if_eq rfl rfl (by omega) (fun _ => ?_) (fun h => absurd (by decide) h)
        refine jr.iconst rfl ?_
        exact jr.ireturn rfl rfl rfl (q _ (by omega) (by rw [scf_n (by omega), if_pos (by omega), if_neg (by omega)]))
    · have sx16 : (1 : Int) ≤ v2 := by omega
      clear h16
      refine jr.iconst rfl ?_
      exact jr.ireturn rfl rfl rfl (q _ (by omega) (scf_3 (by omega)).symm)
  · have sx4 : (1 : Int) ≤ v1 := by omega
    clear h4
    refine jr.iconst rfl ?_
    refine jr.goto rfl rfl ?_
    refine jr.istore_n (ls' := [_, _]) rfl (by decide) rfl ?_
    refine jr.iload_n rfl rfl ?_
    refine jr.iconst rfl ?_
    refine jr.iand rfl ?_
    have b5 : j_and x 4 = x / 4 % 2 * 4 ∧ 0 ≤ j_and x 4 ∧ j_and x 4 ≤ 16 := ⟨(jbt (by omega)).2.2.1, by rw [(jbt (by omega)).2.2.1]; omega⟩
    generalize j_and x 4 = v5 at b5 ⊢
    refine jr.if_eq rfl rfl (by omega) (fun h16 => ?_) (fun h16 => ?_)
    · refine jr.iload_n rfl rfl ?_
      refine jr.iconst rfl ?_
      refine jr.iand rfl ?_
      have b6 : j_and x 2 = x / 2 % 2 * 2 ∧ 0 ≤ j_and x 2 ∧ j_and x 2 ≤ 16 := ⟨(jbt (by omega)).2.1, by rw [(jbt (by omega)).2.1]; omega⟩
      generalize j_and x 2 = v6 at b6 ⊢
      refine jr.if_eq rfl rfl (by omega) (fun h24 => ?_) (fun h24 => ?_)
      · refine jr.iload_n rfl rfl ?_
        refine jr.iconst rfl ?_
        refine jr.iand rfl ?_
        have b7 : j_and x 1 = x % 2 ∧ 0 ≤ j_and x 1 ∧ j_and x 1 ≤ 16 := ⟨(jbt (by omega)).1, by rw [(jbt (by omega)).1]; omega⟩
        generalize j_and x 1 = v7 at b7 ⊢
        refine jr.if_eq rfl rfl (by omega) (fun h40 => ?_) (fun h40 => ?_)
        · refine jr.iload_n rfl rfl ?_
          refine jr.if_eq rfl rfl (by omega) (fun h => absurd h (by decide)) (fun _ => ?_)
          refine jr.iconst rfl ?_
          refine jr.goto rfl rfl ?_
          exact jr.ireturn rfl rfl rfl (q _ (by omega) (by rw [scf_n (by omega), if_neg (by omega), if_neg (by omega), if_pos (by omega)]))
        · have sx40 : (1 : Int) ≤ v7 := by omega
          clear h40
          refine jr.iconst rfl ?_
          exact jr.ireturn rfl rfl rfl (q _ (by omega) (by rw [scf_n (by omega), if_neg (by omega), if_pos (by omega)]))
      · have sx24 : (1 : Int) ≤ v6 := by omega
        clear h24
        refine jr.iload_n rfl rfl ?_
        refine jr.if_eq rfl rfl (by omega) (fun h => absurd h (by decide)) (fun _ => ?_)
        refine jr.iconst rfl ?_
        refine jr.goto rfl rfl ?_
        exact jr.ireturn rfl rfl rfl (q _ (by omega) (by rw [scf_n (by omega), if_pos (by omega), if_pos (by omega)]))
    · have sx16 : (1 : Int) ≤ v5 := by omega
      clear h16
      refine jr.iconst rfl ?_
      exact jr.ireturn rfl rfl rfl (q _ (by omega) (scf_3 (by omega)).symm)
theorem c_Flow_lifeNow_x {A : Nat → Option (Nat × (Nat → Int32))} {Q : Option Value → jm → Prop} {M : jm} (hC_M : CI M) {t : Nat} (k_t : kd t = 1) {N_ : Int} (g_N_ : M t 2 = N_) {S_ : Int} (g_S_ : M t 5 = S_) (q : ∀ (r : Int), 0 ≤ r ∧ r ≤ 200 → (r = lvf N_ S_) → Q (some (.int (Int32.ofInt r))) M) : jc A 1 69 [.ref (t)] M Q := by
  refine jc_of (m := xm_69) rfl (Nat.le_of_ble_eq_true rfl) rfl ?_
  have b_N_ : (-2147483648) ≤ N_ ∧ N_ ≤ 2147483647 := by rw [← g_N_]; exact (CI.r hC_M k_t (by decide) 2)
  have b_S_ : (-2147483648) ≤ S_ ∧ S_ ≤ 2147483647 := by rw [← g_S_]; exact (CI.r hC_M k_t (by decide) 5)
  refine jr.aload_n rfl rfl ?_
  refine jr.getf (i := 2) (x := N_) (v := .int (Int32.ofInt (N_))) rfl rfl (Nat.lt_trans (kx_1 k_t).1 (by decide)) (kx_1 k_t).2 (by decide) rfl rfl g_N_ rfl ?_
  refine jr.iconst rfl ?_
  refine jr.icmp_ne rfl rfl (by omega) (by omega) (fun h5 => ?_) (fun h5 => ?_)
  · refine jr.aload_n rfl rfl ?_
    refine jr.getf (i := 2) (x := N_) (v := .int (Int32.ofInt (N_))) rfl rfl (Nat.lt_trans (kx_1 k_t).1 (by decide)) (kx_1 k_t).2 (by decide) rfl rfl g_N_ rfl ?_
    refine jr.bipush rfl (by decide) ?_
    refine jr.icmp_ne rfl rfl (by omega) (by omega) (fun h16 => ?_) (fun h16 => ?_)
    · refine jr.aload_n rfl rfl ?_
      refine jr.getf (i := 5) (x := S_) (v := .int (Int32.ofInt (S_))) rfl rfl (Nat.lt_trans (kx_1 k_t).1 (by decide)) (kx_1 k_t).2 (by decide) rfl rfl g_S_ rfl ?_
      refine jr.iconst rfl ?_
      refine jr.icmp_lt rfl rfl (by omega) (by omega) (fun h39 => ?_) (fun h39 => ?_)
      · refine jr.iconst rfl ?_
        exact jr.ireturn rfl rfl rfl (q _ (by omega) (by unfold lvf; (repeat' split) <;> omega))
      · refine jr.aload_n rfl rfl ?_
        refine jr.getf (i := 5) (x := S_) (v := .int (Int32.ofInt (S_))) rfl rfl (Nat.lt_trans (kx_1 k_t).1 (by decide)) (kx_1 k_t).2 (by decide) rfl rfl g_S_ rfl ?_
        refine jr.bipush rfl (by decide) ?_
        refine jr.icmp_gt rfl rfl (by omega) (by omega) (fun h48 => ?_) (fun h48 => ?_)
        · refine jr.iconst rfl ?_
          exact jr.ireturn rfl rfl rfl (q _ (by omega) (by unfold lvf; (repeat' split) <;> omega))
        · refine jr.gst (v := .ref 1000006) rfl rfl ?_
          refine jr.aload_n rfl rfl ?_
          refine jr.getf (i := 5) (x := S_) (v := .int (Int32.ofInt (S_))) rfl rfl (Nat.lt_trans (kx_1 k_t).1 (by decide)) (kx_1 k_t).2 (by decide) rfl rfl g_S_ rfl ?_
          refine jr.iconst rfl ?_
          refine jr.isub rfl ?_
          obtain ⟨v1, e1⟩ : ∃ z_, xcv_6 (S_ - 1) = z_ := ⟨_, rfl⟩
          have b1 : 3 ≤ v1 ∧ v1 ≤ 200 := by rw [← e1]; exact xcr_6 (by omega) (by omega)
          refine jr.ials (i := (S_ - 1)) v1 rfl (by decide) rfl (by decide) (by omega) (by omega) (by rw [← e1]; exact (Int32.ofInt_toInt _).symm) ?_
          refine jr.goto rfl rfl ?_
          exact jr.ireturn rfl rfl rfl (q _ (by omega) (by rw [← lv1 (by omega) (by omega) (by omega)]; omega))
    · refine jr.aload_n rfl rfl ?_
      refine jr.getf (i := 5) (x := S_) (v := .int (Int32.ofInt (S_))) rfl rfl (Nat.lt_trans (kx_1 k_t).1 (by decide)) (kx_1 k_t).2 (by decide) rfl rfl g_S_ rfl ?_
      refine jr.if_ne rfl rfl (by omega) (fun h23 => ?_) (fun h23 => ?_)
      · refine jr.bipush rfl (by decide) ?_
        exact jr.ireturn rfl rfl rfl (q _ (by omega) (by unfold lvf; (repeat' split) <;> omega))
      · refine jr.bipush rfl (by decide) ?_
        refine jr.goto rfl rfl ?_
        exact jr.ireturn rfl rfl rfl (q _ (by omega) (by unfold lvf; (repeat' split) <;> omega))
  · refine jr.iconst rfl ?_
    exact jr.ireturn rfl rfl rfl (q _ (by omega) (by unfold lvf; (repeat' split) <;> omega))
end
