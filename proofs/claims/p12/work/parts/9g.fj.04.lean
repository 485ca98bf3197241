section
theorem c_Flow_isOut_x {A : Nat → Option (Nat × (Nat → Int32))} {Q : Option Value → jm → Prop} {M : jm} (hC_M : CI M) {t : Nat} (k_t : kd t = 1) {x : Int} (h_x : 0 ≤ x ∧ x ≤ 1) {y : Int} (h_y : (-2147483648) ≤ y ∧ y ≤ 2147483647) {z : Int} (h_z : (-2147483648) ≤ z ∧ z ≤ 2147483647) (q : ∀ (r : Int), 0 ≤ r ∧ r ≤ 1 → (r = ioF M t x y z) → Q (some (.int (Int32.ofInt r))) M) : jc A 1 72 [.ref (t), .int (Int32.ofInt (x)), .int (Int32.ofInt (y)), .int (Int32.ofInt (z))] M Q := by
  refine jc_of (m := xm_72) rfl (Nat.le_of_ble_eq_true rfl) rfl ?_
  refine jr.aload_n rfl rfl ?_
  have k1 := kf_1_8 k_t
  refine jr.getf (i := 8) (v := .ref (t + 4)) rfl rfl (Nat.lt_trans (kx_1 k_t).1 (by decide)) (kx_1 k_t).2 (by decide) rfl rfl rfl (jval_ref rfl k1.1) ?_
  refine jr.iload_n rfl rfl ?_
  obtain ⟨v2, e2⟩ : ∃ z_, M ((t + 4)) x = z_ := ⟨_, rfl⟩
  have b2 : 0 ≤ v2 ∧ v2 ≤ 1 := by rw [← e2]; exact (CI.r hC_M k1.2 (by decide) x)
  refine jr.zald (i := x) (x := v2) rfl (Nat.lt_trans (kx_4 k1.2).1 (by decide)) (kx_4 k1.2).2 (by decide) (by omega) (by omega) e2 ?_
  refine jr.if_ne rfl rfl (by omega) (fun h6 => ?_) (fun h6 => ?_)
  · have sx6 : (1 : Int) ≤ v2 := by omega
    clear h6
    refine jr.iload_n rfl rfl ?_
    refine jr.iconst rfl ?_
    refine jr.icmp_eq rfl rfl (by omega) (by omega) (fun h13 => ?_) (fun h13 => ?_)
    · refine jr.iconst rfl ?_
      refine jr.goto rfl rfl ?_
      refine jr.istore (ls' := [_, _, _, _, _]) rfl (by decide) rfl ?_
      refine jr.iload_n rfl rfl ?_
      refine jr.aload_n rfl rfl ?_
      have k3 := kf_1_7 k_t
      refine jr.getf (i := 7) (v := .ref (t + 3)) rfl rfl (Nat.lt_trans (kx_1 k_t).1 (by decide)) (kx_1 k_t).2 (by decide) rfl rfl rfl (jval_ref rfl k3.1) ?_
      refine jr.iload_n rfl rfl ?_
      obtain ⟨v4, e4⟩ : ∃ z_, M ((t + 3)) x = z_ := ⟨_, rfl⟩
      have b4 : (-2147483648) ≤ v4 ∧ v4 ≤ 2147483647 := by rw [← e4]; exact (CI.r hC_M k3.2 (by decide) x)
      refine jr.iald (i := x) (x := v4) rfl (Nat.lt_trans (kx_5 k3.2).1 (by decide)) (kx_5 k3.2).2 (by decide) (by omega) (by omega) e4 ?_
      refine jr.isub rfl ?_
      refine jr.iw (j_w (y - v4)) (j_w_eq _) ?_
      have b5 : -2147483648 ≤ j_w (y - v4) ∧ j_w (y - v4) ≤ 2147483647 := jb_any _
      refine jr.ldc (x := (-66000)) rfl rfl (by decide) ?_
      refine jr.icmp_lt rfl rfl (by omega) (by omega) (fun h40 => ?_) (fun h40 => ?_)
      · refine jr.iconst rfl ?_
        refine jr.goto rfl rfl ?_
        exact jr.ireturn rfl rfl rfl (q _ (by omega) (by rw [io_1 (by omega) e4 rfl (by first | (left; omega) | (right; omega))]))
      · refine jr.iload rfl rfl ?_
        refine jr.if_eq rfl rfl (by omega) (fun h => absurd h (by decide)) (fun _ => ?_)
        refine jr.iload_n rfl rfl ?_
        refine jr.iload_n rfl rfl ?_
        refine jr.iadd rfl ?_
        refine jr.iw (j_w (y + z)) (j_w_eq _) ?_
        have b6 : -2147483648 ≤ j_w (y + z) ∧ j_w (y + z) ≤ 2147483647 := jb_any _
        refine jr.aload_n rfl rfl ?_
        have k7 := kf_1_7 k_t
        refine jr.getf (i := 7) (v := .ref (t + 3)) rfl rfl (Nat.lt_trans (kx_1 k_t).1 (by decide)) (kx_1 k_t).2 (by decide) rfl rfl rfl (jval_ref rfl k7.1) ?_
        refine jr.iload_n rfl rfl ?_
        refine jr.iald (i := x) (x := v4) rfl (Nat.lt_trans (kx_5 k7.2).1 (by decide)) (kx_5 k7.2).2 (by decide) (by omega) (by omega) e4 ?_
        refine jr.isub rfl ?_
        refine jr.iw (j_w ((j_w (y + z)) - v4)) (j_w_eq _) ?_
        have b8 : -2147483648 ≤ j_w ((j_w (y + z)) - v4) ∧ j_w ((j_w (y + z)) - v4) ≤ 2147483647 := jb_any _
        refine jr.aload_n rfl rfl ?_
        have k9 := kf_1_9 k_t
        refine jr.getf (i := 9) (v := .ref (t + 5)) rfl rfl (Nat.lt_trans (kx_1 k_t).1 (by decide)) (kx_1 k_t).2 (by decide) rfl rfl rfl (jval_ref rfl k9.1) ?_
        refine jr.iconst rfl ?_
        refine jr.iload_n rfl rfl ?_
        refine jr.isub rfl ?_
        obtain ⟨v10, e10⟩ : ∃ z_, M ((t + 5)) (1 - x) = z_ := ⟨_, rfl⟩
        have b10 : (-2147483648) ≤ v10 ∧ v10 ≤ 2147483647 := by rw [← e10]; exact (CI.r hC_M k9.2 (by decide) (1 - x))
        refine jr.iald (i := (1 - x)) (x := v10) rfl (Nat.lt_trans (kx_8 k9.2).1 (by decide)) (kx_8 k9.2).2 (by decide) (by omega) (by omega) e10 ?_
        refine jr.icmp_le rfl rfl (by omega) (by omega) (fun h66 => ?_) (fun h66 => ?_)
        · refine jr.iconst rfl ?_
          exact jr.ireturn rfl rfl rfl (q _ (by omega) (by rw [io_2 (by omega) e4 e10 (by omega)]))
        · refine jr.iconst rfl ?_
          refine jr.goto rfl rfl ?_
          exact jr.ireturn rfl rfl rfl (q _ (by omega) (by rw [io_1 (by omega) e4 e10 (by first | (left; omega) | (right; omega))]))
    · have sx13 : x ≤ (0 : Int) := by omega
      clear h13
      refine jr.aload_n rfl rfl ?_
      obtain ⟨v11, e11⟩ : ∃ z_, M t 12 = z_ := ⟨_, rfl⟩
      have b11 : 0 ≤ v11 ∧ v11 ≤ 1 := by rw [← e11]; exact (CI.r hC_M k_t (by decide) 12)
      refine jr.getf (i := 12) (x := v11) (v := .int (Int32.ofInt (v11))) rfl rfl (Nat.lt_trans (kx_1 k_t).1 (by decide)) (kx_1 k_t).2 (by decide) rfl rfl e11 rfl ?_
      refine jr.if_eq rfl rfl (by omega) (fun h20 => ?_) (fun h20 => ?_)
      · refine jr.iconst rfl ?_
        refine jr.istore (ls' := [_, _, _, _, _]) rfl (by decide) rfl ?_
        refine jr.iload_n rfl rfl ?_
        refine jr.aload_n rfl rfl ?_
        have k12 := kf_1_7 k_t
        refine jr.getf (i := 7) (v := .ref (t + 3)) rfl rfl (Nat.lt_trans (kx_1 k_t).1 (by decide)) (kx_1 k_t).2 (by decide) rfl rfl rfl (jval_ref rfl k12.1) ?_
        refine jr.iload_n rfl rfl ?_
        obtain ⟨v13, e13⟩ : ∃ z_, M ((t + 3)) x = z_ := ⟨_, rfl⟩
        have b13 : (-2147483648) ≤ v13 ∧ v13 ≤ 2147483647 := by rw [← e13]; exact (CI.r hC_M k12.2 (by decide) x)
        refine jr.iald (i := x) (x := v13) rfl (Nat.lt_trans (kx_5 k12.2).1 (by decide)) (kx_5 k12.2).2 (by decide) (by omega) (by omega) e13 ?_
        refine jr.isub rfl ?_
        refine jr.iw (j_w (y - v13)) (j_w_eq _) ?_
        have b14 : -2147483648 ≤ j_w (y - v13) ∧ j_w (y - v13) ≤ 2147483647 := jb_any _
        refine jr.ldc (x := (-66000)) rfl rfl (by decide) ?_
        refine jr.icmp_lt rfl rfl (by omega) (by omega) (fun h40 => ?_) (fun h40 => ?_)
        · refine jr.iconst rfl ?_
          refine jr.goto rfl rfl ?_
          exact jr.ireturn rfl rfl rfl (q _ (by omega) (by rw [io_1 (by omega) e13 rfl (by first | (left; omega) | (right; omega))]))
        · refine jr.iload rfl rfl ?_
          refine jr.if_eq rfl rfl (by omega) (fun _ => ?_) (fun h => absurd (by decide) h)
          refine jr.iconst rfl ?_
          exact jr.ireturn rfl rfl rfl (q _ (by omega) (by rw [io_2 (by omega) e13 rfl (by omega)]))
      · have sx20 : (1 : Int) ≤ v11 := by omega
        clear h20
        refine jr.iconst rfl ?_
        refine jr.goto rfl rfl ?_
        refine jr.istore (ls' := [_, _, _, _, _]) rfl (by decide) rfl ?_
        refine jr.iload_n rfl rfl ?_
        refine jr.aload_n rfl rfl ?_
        have k15 := kf_1_7 k_t
        refine jr.getf (i := 7) (v := .ref (t + 3)) rfl rfl (Nat.lt_trans (kx_1 k_t).1 (by decide)) (kx_1 k_t).2 (by decide) rfl rfl rfl (jval_ref rfl k15.1) ?_
        refine jr.iload_n rfl rfl ?_
        obtain ⟨v16, e16⟩ : ∃ z_, M ((t + 3)) x = z_ := ⟨_, rfl⟩
        have b16 : (-2147483648) ≤ v16 ∧ v16 ≤ 2147483647 := by rw [← e16]; exact (CI.r hC_M k15.2 (by decide) x)
        refine jr.iald (i := x) (x := v16) rfl (Nat.lt_trans (kx_5 k15.2).1 (by decide)) (kx_5 k15.2).2 (by decide) (by omega) (by omega) e16 ?_
        refine jr.isub rfl ?_
        refine jr.iw (j_w (y - v16)) (j_w_eq _) ?_
        have b17 : -2147483648 ≤ j_w (y - v16) ∧ j_w (y - v16) ≤ 2147483647 := jb_any _
        refine jr.ldc (x := (-66000)) rfl rfl (by decide) ?_
        refine jr.icmp_lt rfl rfl (by omega) (by omega) (fun h40 => ?_) (fun h40 => ?_)
        · refine jr.iconst rfl ?_
          refine jr.goto rfl rfl ?_
          exact jr.ireturn rfl rfl rfl (q _ (by omega) (by rw [io_1 (by omega) e16 rfl (by first | (left; omega) | (right; omega))]))
        · refine jr.iload rfl rfl ?_
          refine jr.if_eq rfl rfl (by omega) (fun h => absurd h (by decide)) (fun _ => ?_)
          refine jr.iload_n rfl rfl ?_
          refine jr.iload_n rfl rfl ?_
          refine jr.iadd rfl ?_
          refine jr.iw (j_w (y + z)) (j_w_eq _) ?_
          have b18 : -2147483648 ≤ j_w (y + z) ∧ j_w (y + z) ≤ 2147483647 := jb_any _
          refine jr.aload_n rfl rfl ?_
          have k19 := kf_1_7 k_t
          refine jr.getf (i := 7) (v := .ref (t + 3)) rfl rfl (Nat.lt_trans (kx_1 k_t).1 (by decide)) (kx_1 k_t).2 (by decide) rfl rfl rfl (jval_ref rfl k19.1) ?_
          refine jr.iload_n rfl rfl ?_
          refine jr.iald (i := x) (x := v16) rfl (Nat.lt_trans (kx_5 k19.2).1 (by decide)) (kx_5 k19.2).2 (by decide) (by omega) (by omega) e16 ?_
          refine jr.isub rfl ?_
          refine jr.iw (j_w ((j_w (y + z)) - v16)) (j_w_eq _) ?_
          have b20 : -2147483648 ≤ j_w ((j_w (y + z)) - v16) ∧ j_w ((j_w (y + z)) - v16) ≤ 2147483647 := jb_any _
          refine jr.aload_n rfl rfl ?_
          have k21 := kf_1_9 k_t
          refine jr.getf (i := 9) (v := .ref (t + 5)) rfl rfl (Nat.lt_trans (kx_1 k_t).1 (by decide)) (kx_1 k_t).2 (by decide) rfl rfl rfl (jval_ref rfl k21.1) ?_
          refine jr.iconst rfl ?_
          refine jr.iload_n rfl rfl ?_
          refine jr.isub rfl ?_
          obtain ⟨v22, e22⟩ : ∃ z_, M ((t + 5)) (1 - x) = z_ := ⟨_, rfl⟩
          have b22 : (-2147483648) ≤ v22 ∧ v22 ≤ 2147483647 := by rw [← e22]; exact (CI.r hC_M k21.2 (by decide) (1 - x))
          refine jr.iald (i := (1 - x)) (x := v22) rfl (Nat.lt_trans (kx_8 k21.2).1 (by decide)) (kx_8 k21.2).2 (by decide) (by omega) (by omega) e22 ?_
          refine jr.icmp_le rfl rfl (by omega) (by omega) (fun h66 => ?_) (fun h66 => ?_)
          · refine jr.iconst rfl ?_
            exact jr.ireturn rfl rfl rfl (q _ (by omega) (by rw [io_2 (by omega) e16 e22 (by omega)]))
          · refine jr.iconst rfl ?_
            refine jr.goto rfl rfl ?_
            exact jr.ireturn rfl rfl rfl (q _ (by omega) (by rw [io_1 (by omega) e16 e22 (by first | (left; omega) | (right; omega))]))
  · refine jr.iconst rfl ?_
    exact jr.ireturn rfl rfl rfl (q _ (by omega) (by rw [io_0 (by omega)]))
noncomputable def BGE (T M : jm) (t : Nat) (i : Int) : Prop := (M t 0 = 1 ∧ M t 1 = T 18 1 ∧ M t 2 = T 18 2) ∧ (∀ s : Int, 0 ≤ s → s < i → M (t + 1) s = T 19 s ∧ M (t + 2) s = T 20 s) ∧ (∀ k : Int, k ≠ 0 → k ≠ 1 → k ≠ 2 → M t k = T t k) ∧ ∀ (b : Nat) (k : Int), b ≠ t → b ≠ t + 1 → b ≠ t + 2 → M b k = T b k
theorem BGE.s {T M : jm} {t : Nat} {i a v : Int} (h : BGE T M t i) (h0 : 0 ≤ i) (ha : a = T 19 i) (hv : v = T 20 i) : BGE T (ju (ju M (t + 1) i a) (t + 2) i v) t (i + 1) := by
  obtain ⟨h1, h2, h3, h4⟩ := h
  refine ⟨?_, fun s s0 s1 => ?_, fun k k0 k1 k2 => ?_, fun b k b0 b1 b2 => ?_⟩
  · simp only [ju_c _ _ (show t ≠ t + 2 by omega), ju_c _ _ (show t ≠ t + 1 by omega)]; exact h1
  · by_cases e : s = i
    · subst e
      rw [ju_c _ _ (show t + 1 ≠ t + 2 by omega), ju_same, ju_same]
      exact ⟨ha, hv⟩
    · rw [ju_c _ _ (show t + 1 ≠ t + 2 by omega), ju_i _ _ e, ju_i _ _ e, ju_c _ _ (show t + 2 ≠ t + 1 by omega)]
      exact h2 s s0 (by omega)
  · rw [ju_c _ _ (show t ≠ t + 2 by omega), ju_c _ _ (show t ≠ t + 1 by omega)]; exact h3 k k0 k1 k2
  · rw [ju_c _ _ b2, ju_c _ _ b1]; exact h4 b k b0 b1 b2
/-- a flow that begins with the ends -/
noncomputable def BGN (T M : jm) (t : Nat) : Prop := (M t 0 = 1 ∧ M t 1 = T 18 1 ∧ M t 2 = T 18 2 ∧ M t 5 = (if T 18 2 = 6 then 1 else 0) ∧ M t 13 = -1 ∧ M t 15 = -1 ∧ M t 12 = 0) ∧ (∀ s : Int, 0 ≤ s → s < 2 → (M (t + 1) s = T 19 s ∧ M (t + 2) s = T 20 s) ∧ M (t + 3) s = 0 ∧ M (t + 4) s = 0 ∧ M (t + 5) s = 0 ∧ M (t + 6) s = 0 ∧ M (t + 7) s = 0) ∧ (M t 6 = T t 6 ∧ M t 14 = T t 14) ∧ ∀ (b : Nat) (k : Int), b ≠ t → b ≠ t + 1 → b ≠ t + 2 → b ≠ t + 3 → b ≠ t + 4 → b ≠ t + 5 → b ≠ t + 6 → b ≠ t + 7 → M b k = T b k
end
