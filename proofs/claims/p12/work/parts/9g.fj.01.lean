section
theorem c_PacketWall_gathered_x {A : Nat → Option (Nat × (Nat → Int32))} {Q : Option Value → jm → Prop} {M : jm} (hC_M : CI M) {x : Int} (h_x : (-2147483648) ≤ x ∧ x ≤ 2147483647) (q : ∀ (r : Int), (-2147483648) ≤ r ∧ r ≤ 2147483647 → (((0 ≤ x ∧ x < 5) ∧ r = M 14 x) ∨ ((x < 0 ∨ 5 ≤ x) ∧ r = -3)) → Q (some (.int (Int32.ofInt r))) M) : jc A 1 17 [.ref (0), .int (Int32.ofInt (x))] M Q := by
  refine jc_of (m := xm_17) rfl (Nat.le_of_ble_eq_true rfl) rfl ?_
  refine jr.iload_n rfl rfl ?_
  refine jr.if_lt rfl rfl (by omega) (fun h1 => ?_) (fun h1 => ?_)
  · refine jr.bipush rfl (by decide) ?_
    refine jr.goto rfl rfl ?_
    exact jr.ireturn rfl rfl rfl (q _ (by omega) (by omega))
  · refine jr.iload_n rfl rfl ?_
    refine jr.aload_n rfl rfl ?_
    refine jr.getf (i := 7) (v := .ref 14) rfl rfl (by decide) rfl (by decide) rfl rfl rfl rfl ?_
    refine jr.alen0 (x := 5) rfl (by decide) rfl rfl ?_
    refine jr.icmp_lt rfl rfl (by omega) (by omega) (fun h10 => ?_) (fun h10 => ?_)
    · refine jr.aload_n rfl rfl ?_
      refine jr.getf (i := 7) (v := .ref 14) rfl rfl (by decide) rfl (by decide) rfl rfl rfl rfl ?_
      refine jr.iload_n rfl rfl ?_
      obtain ⟨v1, e1⟩ : ∃ z_, M 14 x = z_ := ⟨_, rfl⟩
      have b1 : (-2147483648) ≤ v1 ∧ v1 ≤ 2147483647 := by rw [← e1]; exact (CI.r hC_M (show kd 14 = 41 from rfl) (by decide) x)
      refine jr.iald (i := x) (x := v1) rfl (by decide) rfl (by decide) (by omega) (by omega) e1 ?_
      exact jr.ireturn rfl rfl rfl (q _ (by omega) (by omega))
    · refine jr.bipush rfl (by decide) ?_
      refine jr.goto rfl rfl ?_
      exact jr.ireturn rfl rfl rfl (q _ (by omega) (by omega))
/-- a flow that has forgotten sides below i -/
noncomputable def FGL (T M : jm) (t : Nat) (i : Int) : Prop := (∀ s : Int, 0 ≤ s → s < i → M (t + 3) s = 0 ∧ M (t + 4) s = 0 ∧ M (t + 5) s = 0 ∧ M (t + 6) s = 0 ∧ M (t + 7) s = 0) ∧ ∀ (b : Nat) (k : Int), b ≠ t + 3 → b ≠ t + 4 → b ≠ t + 5 → b ≠ t + 6 → b ≠ t + 7 → M b k = T b k
theorem FGL.s {T M : jm} {t : Nat} {i : Int} (h : FGL T M t i) (h0 : 0 ≤ i) : FGL T (ju (ju (ju (ju (ju M (t + 3) i 0) (t + 4) i 0) (t + 5) i 0) (t + 6) i 0) (t + 7) i 0) t (i + 1) := by
  refine ⟨fun s s0 s1 => ?_, fun b k b3 b4 b5 b6 b7 => ?_⟩
  · simp only [ju]
    by_cases e : s = i
    · subst e
      simp
    · have q := h.1 s s0 (by omega)
      simp [e, q]
  · rw [ju_c _ _ b7, ju_c _ _ b6, ju_c _ _ b5, ju_c _ _ b4, ju_c _ _ b3]
    exact h.2 b k b3 b4 b5 b6 b7
noncomputable def FGT (T M : jm) (t : Nat) : Prop := (∀ s : Int, 0 ≤ s → s < 2 → M (t + 3) s = 0 ∧ M (t + 4) s = 0 ∧ M (t + 5) s = 0 ∧ M (t + 6) s = 0 ∧ M (t + 7) s = 0) ∧ M t 12 = 0 ∧ (∀ k : Int, k ≠ 12 → M t k = T t k) ∧ ∀ (b : Nat) (k : Int), b ≠ t → b ≠ t + 3 → b ≠ t + 4 → b ≠ t + 5 → b ≠ t + 6 → b ≠ t + 7 → M b k = T b k
theorem FGL.e {T M : jm} {t : Nat} (h : FGL T M t 2) : FGT T (ju M t 12 0) t := by
  refine ⟨fun s s0 s1 => ?_, ju_same _ _ _ _, fun k hk => ?_, fun b k b0 b3 b4 b5 b6 b7 => ?_⟩
  · rw [ju_c _ _ (by omega), ju_c _ _ (by omega), ju_c _ _ (by omega), ju_c _ _ (by omega), ju_c _ _ (by omega)]
    exact h.1 s s0 s1
  · rw [ju_i _ _ hk]; exact h.2 t k (by omega) (by omega) (by omega) (by omega) (by omega)
  · rw [ju_c _ _ b0]; exact h.2 b k b3 b4 b5 b6 b7
noncomputable def W_c_Flow_forget_x : List (Nat × Nat) := [(1, 12), (3, 1000), (4, 1000), (5, 1000), (6, 1000), (8, 1000)]
theorem c_Flow_forget_x_L2 {A : Nat → Option (Nat × (Nat → Int32))} {Q : Option Value → jm → Prop} {T : jm} {t : Nat} (k_t : kd t = 1) (q : ∀ (M' : jm), CI M' → FR W_c_Flow_forget_x T M' → (FGT T M' t) → Q none M') : ∀ (nM : Nat) (M : jm) (i : Int), CI M → FR W_c_Flow_forget_x T M → 0 ≤ i ∧ i ≤ 2 → (FGL T M t i) → 2 - i ≤ nM → jr A 0 xm_59 2 [(1, .int (Int32.ofInt (i))), (0, .ref (t))] [] M Q := by
  intro nM
  induction nM using Nat.strongRecOn with
  | ind nM ih =>
    intro M i hC_M ht_M h_i hy0 hm
    refine jr.iload_n rfl rfl ?_
    refine jr.iconst rfl ?_
    refine jr.icmp_ge rfl rfl (by omega) (by omega) (fun h4 => ?_) (fun h4 => ?_)
    · refine jr.aload_n rfl rfl ?_
      refine jr.iconst rfl ?_
      refine jr.putf (i := 12) (x := 0) rfl rfl (Nat.lt_trans (kx_1 k_t).1 (by decide)) (kx_1 k_t).2 (by decide) rfl rfl rfl rfl rfl ?_
      exact jr.vreturn rfl rfl (q _ (CI.u hC_M (i := 12) k_t (show (0 : Int) ≤ _ ∧ _ ≤ (1 : Int) from by omega) rfl) (FR.o ht_M k_t rfl)  (FGL.e (by have h9 := hy0; rw [show i = 2 from by omega] at h9; exact h9)))
    · refine jr.aload_n rfl rfl ?_
      have k1 := kf_1_7 k_t
      refine jr.getf (i := 7) (v := .ref (t + 3)) rfl rfl (Nat.lt_trans (kx_1 k_t).1 (by decide)) (kx_1 k_t).2 (by decide) rfl rfl rfl (jval_ref rfl k1.1) ?_
      refine jr.iload_n rfl rfl ?_
      refine jr.iconst rfl ?_
      refine jr.iast (i := i) (x := 0) rfl (Nat.lt_trans (kx_5 k1.2).1 (by decide)) (kx_5 k1.2).2 (by decide) (by omega) (by omega) ?_
      refine jr.aload_n rfl rfl ?_
      have k2 := kf_1_8 k_t
      refine jr.getf (i := 8) (v := .ref (t + 4)) rfl rfl (Nat.lt_trans (kx_1 k_t).1 (by decide)) (kx_1 k_t).2 (by decide) rfl rfl rfl (jval_ref rfl k2.1) ?_
      refine jr.iload_n rfl rfl ?_
      refine jr.iconst rfl ?_
      refine jr.zast (i := i) (x := 0) rfl (Nat.lt_trans (kx_4 k2.2).1 (by decide)) (kx_4 k2.2).2 (by decide) (by omega) (by omega) (j_zn (by omega)) ?_
      refine jr.aload_n rfl rfl ?_
      have k3 := kf_1_9 k_t
      refine jr.getf (i := 9) (v := .ref (t + 5)) rfl rfl (Nat.lt_trans (kx_1 k_t).1 (by decide)) (kx_1 k_t).2 (by decide) rfl rfl rfl (jval_ref rfl k3.1) ?_
      refine jr.iload_n rfl rfl ?_
      refine jr.iconst rfl ?_
      refine jr.iast (i := i) (x := 0) rfl (Nat.lt_trans (kx_8 k3.2).1 (by decide)) (kx_8 k3.2).2 (by decide) (by omega) (by omega) ?_
      refine jr.aload_n rfl rfl ?_
      have k4 := kf_1_10 k_t
      refine jr.getf (i := 10) (v := .ref (t + 6)) rfl rfl (Nat.lt_trans (kx_1 k_t).1 (by decide)) (kx_1 k_t).2 (by decide) rfl rfl rfl (jval_ref rfl k4.1) ?_
      refine jr.iload_n rfl rfl ?_
      refine jr.lconst (x := 0) rfl (by decide) ?_
      refine jr.last (i := i) (x := 0) rfl (Nat.lt_trans (kx_6 k4.2).1 (by decide)) (kx_6 k4.2).2 (by decide) (by omega) (by omega) ?_
      refine jr.aload_n rfl rfl ?_
      have k5 := kf_1_11 k_t
      refine jr.getf (i := 11) (v := .ref (t + 7)) rfl rfl (Nat.lt_trans (kx_1 k_t).1 (by decide)) (kx_1 k_t).2 (by decide) rfl rfl rfl (jval_ref rfl k5.1) ?_
      refine jr.iload_n rfl rfl ?_
      refine jr.lconst (x := 0) rfl (by decide) ?_
      refine jr.last (i := i) (x := 0) rfl (Nat.lt_trans (kx_3 k5.2).1 (by decide)) (kx_3 k5.2).2 (by decide) (by omega) (by omega) ?_
      refine jr.iinc (ls' := [_, _]) rfl rfl (by decide) rfl ?_
      refine jr.goto rfl rfl ?_
      refine jr.pick (ls := [_, _]) [0, 1] rfl rfl ?_
      exact ih (nM - 1) (by omega) ((ju (ju (ju (ju (ju M ((t + 3)) i 0) ((t + 4)) i 0) ((t + 5)) i 0) ((t + 6)) i 0) ((t + 7)) i 0)) (i + 1) (CI.u (CI.u (CI.u (CI.u (CI.u hC_M (i := i) k1.2 (show (-2147483648 : Int) ≤ _ ∧ _ ≤ (2147483647 : Int) from by omega) rfl) (i := i) k2.2 (show (0 : Int) ≤ _ ∧ _ ≤ (1 : Int) from by omega) rfl) (i := i) k3.2 (show (-2147483648 : Int) ≤ _ ∧ _ ≤ (2147483647 : Int) from by omega) rfl) (i := i) k4.2 (show (-9223372036854775808 : Int) ≤ _ ∧ _ ≤ (9223372036854775807 : Int) from by omega) rfl) (i := i) k5.2 (show (-9223372036854775808 : Int) ≤ _ ∧ _ ≤ (9223372036854775807 : Int) from by omega) rfl) (FR.o (FR.o (FR.o (FR.o (FR.o ht_M k1.2 rfl) k2.2 rfl) k3.2 rfl) k4.2 rfl) k5.2 rfl) (by omega) (FGL.s hy0 (by omega)) (by omega)
theorem c_Flow_forget_x {A : Nat → Option (Nat × (Nat → Int32))} {Q : Option Value → jm → Prop} {T : jm} {M : jm} (hC_M : CI M) (ht_M : FR W_c_Flow_forget_x T M) {t : Nat} (k_t : kd t = 1) (p0 : T = M) (q : ∀ (M' : jm), CI M' → FR W_c_Flow_forget_x T M' → (FGT T M' t) → Q none M') : jc A 1 59 [.ref (t)] M Q := by
  refine jc_of (m := xm_59) rfl (Nat.le_of_ble_eq_true rfl) rfl ?_
  refine jr.iconst rfl ?_
  refine jr.istore_n (ls' := [_, _]) rfl (by decide) rfl ?_
  refine jr.pick (ls := [_, _]) [0, 1] rfl rfl ?_
  exact c_Flow_forget_x_L2 k_t q 2 M 0 hC_M ht_M (by omega) ⟨fun s s0 s1 => absurd s1 (by omega), fun _ _ _ _ _ _ _ => by rw [p0]⟩ (by omega)
end
section
/-! ===== the reference: sorts of a stream, lives, forgetting, gathered ===== -/
theorem r_classOf_x {A : Nat → Option (Nat × (Nat → Int32))} {Q : Option Value → jm → Prop} {M : jm} (hI_M : RI M) (hH_M : RH M) (hS_M : RF M) {w : Int} (h_w : 0 ≤ w ∧ w ≤ 255) (q : ∀ (r : Int), 0 ≤ r ∧ r ≤ 5 → r = scf w → Q (some (.int (Int32.ofInt r))) M) : jc A 1 307 [.int (Int32.ofInt (w))] M Q := by
  refine jc_of (m := xm_307) rfl (Nat.le_of_ble_eq_true rfl) rfl ?_
  refine jr.iload_n rfl rfl ?_
  refine jr.iconst rfl ?_
  refine jr.iand rfl ?_
  have b1 : j_and w 4 = w / 4 % 2 * 4 ∧ 0 ≤ j_and w 4 ∧ j_and w 4 ≤ 16 := ⟨(jbt (by omega)).2.2.1, by rw [(jbt (by omega)).2.2.1]; omega⟩
  generalize j_and w 4 = v1 at b1 ⊢
  refine jr.if_eq rfl rfl (by omega) (fun h3 => ?_) (fun h3 => ?_)
  · refine jr.iload_n rfl rfl ?_
    refine jr.iconst rfl ?_
    refine jr.iand rfl ?_
    have b2 : j_and w 2 = w / 2 % 2 * 2 ∧ 0 ≤ j_and w 2 ∧ j_and w 2 ≤ 16 := ⟨(jbt (by omega)).2.1, by rw [(jbt (by omega)).2.1]; omega⟩
    generalize j_and w 2 = v2 at b2 ⊢
    refine jr.if_eq rfl rfl (by omega) (fun h13 => ?_) (fun h13 => ?_)
    · refine jr.iload_n rfl rfl ?_
      refine jr.iconst rfl ?_
      refine jr.iand rfl ?_
      have b3 : j_and w 1 = w % 2 ∧ 0 ≤ j_and w 1 ∧ j_and w 1 ≤ 16 := ⟨(jbt (by omega)).1, by rw [(jbt (by omega)).1]; omega⟩
      generalize j_and w 1 = v3 at b3 ⊢
      refine jr.if_eq rfl rfl (by omega) (fun h34 => ?_) (fun h34 => ?_)
      · refine jr.iload_n rfl rfl ?_
        refine jr.bipush rfl (by decide) ?_
        refine jr.iand rfl ?_
        have b4 : j_and w 16 = w / 16 % 2 * 16 ∧ 0 ≤ j_and w 16 ∧ j_and w 16 ≤ 16 := ⟨(jbt (by omega)).2.2.2, by rw [(jbt (by omega)).2.2.2]; omega⟩
        generalize j_and w 16 = v4 at b4 ⊢
        refine jr.if_eq rfl rfl (by omega) (fun h45 => ?_) (fun h45 => ?_)
        · refine jr.iconst rfl ?_
          exact jr.ireturn rfl rfl rfl (q _ (by omega) (by rw [scf_n (by omega), if_neg (by omega), if_neg (by omega), if_neg (by omega)]))
        · have sx45 : (1 : Int) ≤ v4 := by omega
          clear h45
          refine jr.iconst rfl ?_
          refine jr.goto rfl rfl ?_
          exact jr.ireturn rfl rfl rfl (q _ (by omega) (by rw [scf_n (by omega), if_neg (by omega), if_neg (by omega), if_pos (by omega)]))
      · have sx34 : (1 : Int) ≤ v3 := by omega
        clear h34
        refine jr.iconst rfl ?_
        refine jr.goto rfl rfl ?_
        exact jr.ireturn rfl rfl rfl (q _ (by omega) (by rw [scf_n (by omega), if_neg (by omega), if_pos (by omega)]))
    · have sx13 : (1 : Int) ≤ v2 := by omega
      clear h13
      refine jr.iload_n rfl rfl ?_
      refine jr.bipush rfl (by decide) ?_
      refine jr.iand rfl ?_
      have b5 : j_and w 16 = w / 16 % 2 * 16 ∧ 0 ≤ j_and w 16 ∧ j_and w 16 ≤ 16 := ⟨(jbt (by omega)).2.2.2, by rw [(jbt (by omega)).2.2.2]; omega⟩
      generalize j_and w 16 = v5 at b5 ⊢
      refine jr.if_eq rfl rfl (by omega) (fun h20 => ?_) (fun h20 => ?_)
      · refine jr.iconst rfl ?_
        refine jr.goto rfl rfl ?_
        exact jr.ireturn rfl rfl rfl (q _ (by omega) (by rw [scf_n (by omega), if_pos (by omega), if_neg (by omega)]))
      · have sx20 : (1 : Int) ≤ v5 := by omega
        clear h20
        refine jr.iconst rfl ?_
        refine jr.goto rfl rfl ?_
        exact jr.ireturn rfl rfl rfl (q _ (by omega) (by rw [scf_n (by omega), if_pos (by omega), if_pos (by omega)]))
  · have sx3 : (1 : Int) ≤ v1 := by omega
    clear h3
    refine jr.iconst rfl ?_
    refine jr.goto rfl rfl ?_
    exact jr.ireturn rfl rfl rfl (q _ (by omega) (scf_3 (by omega)).symm)
end
