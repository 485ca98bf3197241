section
theorem c_Flows_changeBy_x {A : Nat → Option (Nat × (Nat → Int32))} {Q : Option Value → jm → Prop} {T : jm} {M : jm} (hC_M : CI M) (ht_M : FR W_c_Flows_changeBy_x T M) {x : Nat} (k_x : kd x = 1) {y : Int} (h_y : (-2147483648) ≤ y ∧ y ≤ 2147483647) {V : Int} (g_V : M 15 0 = V) {P : Int} (g_P : M 27 y = P) (p0 : T = M) (p1 : 0 ≤ P ∧ P ≤ 65535) (q : ∀ (r : Int) (M' : jm), CI M' → FR W_c_Flows_changeBy_x T M' → (-2147483648) ≤ r ∧ r ≤ 2147483647 → (((y < 0 ∨ 3 < y) ∧ r = -3 ∧ M' = T) ∨ ((0 ≤ y ∧ y ≤ 3) ∧ (T x 1 ≠ 0 ∨ T x 2 = 1 ∨ T x 13 ≠ -1 ∨ T 28 y = 0) ∧ r = -4 ∧ M' = T) ∨ (((0 ≤ y ∧ y ≤ 3) ∧ ¬ (T x 1 ≠ 0 ∨ T x 2 = 1 ∨ T x 13 ≠ -1 ∨ T 28 y = 0)) ∧ ((chf T V.toNat (T 26 y) (T 27 y) (T 28 y).toNat 0 = -1 ∧ r = -5 ∧ M' = T) ∨ (chf T V.toNat (T 26 y) (T 27 y) (T 28 y).toNat 0 ≠ -1 ∧ r = T 27 y + chf T V.toNat (T 26 y) (T 27 y) (T 28 y).toNat 0 ∧ M' = ju (ju (ju T x 13 y) x 14 (T 26 y)) x 15 (T 27 y + chf T V.toNat (T 26 y) (T 27 y) (T 28 y).toNat 0))))) → Q (some (.int (Int32.ofInt r))) M') : jc A 2 81 [.ref (15), .ref (x), .int (Int32.ofInt (y))] M Q := by
  refine jc_of (m := xm_81) rfl (Nat.le_of_ble_eq_true rfl) rfl ?_
  have b_V : 16 ≤ V ∧ V ≤ 17 := by rw [← g_V]; exact (CI.r hC_M (show kd 15 = 9 from rfl) (by decide) 0)
  have b_P : (-2147483648) ≤ P ∧ P ≤ 2147483647 := by rw [← g_P]; exact (CI.r hC_M (show kd 27 = 11 from rfl) (by decide) y)
  refine jr.iload_n rfl rfl ?_
  refine jr.if_lt rfl rfl (by omega) (fun h1 => ?_) (fun h1 => ?_)
  · refine jr.bipush rfl (by decide) ?_
    exact jr.ireturn rfl rfl rfl (q _ _ hC_M ht_M (by omega) (by rw [p0]; first | exact Or.inl ⟨by omega, by omega, rfl⟩ | exact Or.inr (Or.inl ⟨by omega, by omega, by omega, rfl⟩)))
  · refine jr.iload_n rfl rfl ?_
    refine jr.iconst rfl ?_
    refine jr.icmp_lt rfl rfl (by omega) (by omega) (fun h6 => ?_) (fun h6 => ?_)
    · refine jr.aload_n rfl rfl ?_
      obtain ⟨v1, e1⟩ : ∃ z_, M x 1 = z_ := ⟨_, rfl⟩
      have b1 : 0 ≤ v1 ∧ v1 ≤ 1 := by rw [← e1]; exact (CI.r hC_M k_x (by decide) 1)
      refine jr.getf (i := 1) (x := v1) (v := .int (Int32.ofInt (v1))) rfl rfl (Nat.lt_trans (kx_1 k_x).1 (by decide)) (kx_1 k_x).2 (by decide) rfl rfl e1 rfl ?_
      refine jr.if_ne rfl rfl (by omega) (fun h16 => ?_) (fun h16 => ?_)
      · have sx16 : (1 : Int) ≤ v1 := by omega
        clear h16
        refine jr.bipush rfl (by decide) ?_
        exact jr.ireturn rfl rfl rfl (q _ _ hC_M ht_M (by omega) (by rw [p0]; first | exact Or.inl ⟨by omega, by omega, rfl⟩ | exact Or.inr (Or.inl ⟨by omega, by omega, by omega, rfl⟩)))
      · refine jr.aload_n rfl rfl ?_
        obtain ⟨v2, e2⟩ : ∃ z_, M x 2 = z_ := ⟨_, rfl⟩
        have b2 : (-2147483648) ≤ v2 ∧ v2 ≤ 2147483647 := by rw [← e2]; exact (CI.r hC_M k_x (by decide) 2)
        refine jr.getf (i := 2) (x := v2) (v := .int (Int32.ofInt (v2))) rfl rfl (Nat.lt_trans (kx_1 k_x).1 (by decide)) (kx_1 k_x).2 (by decide) rfl rfl e2 rfl ?_
        refine jr.iconst rfl ?_
        refine jr.icmp_eq rfl rfl (by omega) (by omega) (fun h24 => ?_) (fun h24 => ?_)
        · refine jr.bipush rfl (by decide) ?_
          exact jr.ireturn rfl rfl rfl (q _ _ hC_M ht_M (by omega) (by rw [p0]; first | exact Or.inl ⟨by omega, by omega, rfl⟩ | exact Or.inr (Or.inl ⟨by omega, by omega, by omega, rfl⟩)))
        · refine jr.aload_n rfl rfl ?_
          obtain ⟨v3, e3⟩ : ∃ z_, M x 13 = z_ := ⟨_, rfl⟩
          have b3 : (-2147483648) ≤ v3 ∧ v3 ≤ 2147483647 := by rw [← e3]; exact (CI.r hC_M k_x (by decide) 13)
          refine jr.getf (i := 13) (x := v3) (v := .int (Int32.ofInt (v3))) rfl rfl (Nat.lt_trans (kx_1 k_x).1 (by decide)) (kx_1 k_x).2 (by decide) rfl rfl e3 rfl ?_
          refine jr.iconst rfl ?_
          refine jr.icmp_ne rfl rfl (by omega) (by omega) (fun h32 => ?_) (fun h32 => ?_)
          · refine jr.bipush rfl (by decide) ?_
            exact jr.ireturn rfl rfl rfl (q _ _ hC_M ht_M (by omega) (by rw [p0]; first | exact Or.inl ⟨by omega, by omega, rfl⟩ | exact Or.inr (Or.inl ⟨by omega, by omega, by omega, rfl⟩)))
          · refine jr.aload_n rfl rfl ?_
            refine jr.getf (i := 8) (v := .ref 28) rfl rfl (by decide) rfl (by decide) rfl rfl rfl rfl ?_
            refine jr.iload_n rfl rfl ?_
            obtain ⟨v4, e4⟩ : ∃ z_, M 28 y = z_ := ⟨_, rfl⟩
            have b4 : 0 ≤ v4 ∧ v4 ≤ 32 := by rw [← e4]; exact (CI.r hC_M (show kd 28 = 12 from rfl) (by decide) y)
            refine jr.iald (i := y) (x := v4) rfl (by decide) rfl (by decide) (by omega) (by omega) e4 ?_
            refine jr.if_ne rfl rfl (by omega) (fun h41 => ?_) (fun h41 => ?_)
            · have sx41 : (1 : Int) ≤ v4 := by omega
              clear h41
              refine jr.iconst rfl ?_
              refine jr.istore_n (ls' := [_, _, _, _]) rfl (by decide) rfl ?_
              refine jr.pick (ls := [_, _, _, _]) [3, 0, 1, 2] rfl rfl ?_
              exact c_Flows_changeBy_x_L49 k_x q 32 M 0 hC_M ht_M (by omega) (by omega) g_V g_P (by rw [show T 28 y - 0 = T 28 y from by omega]) p0.symm (by omega) (by rw [p0]; omega) (by omega)
            · refine jr.bipush rfl (by decide) ?_
              exact jr.ireturn rfl rfl rfl (q _ _ hC_M ht_M (by omega) (by rw [p0]; first | exact Or.inl ⟨by omega, by omega, rfl⟩ | exact Or.inr (Or.inl ⟨by omega, by omega, by omega, rfl⟩)))
    · refine jr.bipush rfl (by decide) ?_
      exact jr.ireturn rfl rfl rfl (q _ _ hC_M ht_M (by omega) (by rw [p0]; first | exact Or.inl ⟨by omega, by omega, rfl⟩ | exact Or.inr (Or.inl ⟨by omega, by omega, by omega, rfl⟩)))
noncomputable def W_c_PacketWall_change_x : List (Nat × Nat) := [(1, 13), (1, 14), (1, 15)]
theorem c_PacketWall_change_x {A : Nat → Option (Nat × (Nat → Int32))} {Q : Option Value → jm → Prop} {T : jm} {M : jm} (hC_M : CI M) (ht_M : FR W_c_PacketWall_change_x T M) {x : Int} (h_x : (-2147483648) ≤ x ∧ x ≤ 2147483647) {y : Int} (h_y : (-2147483648) ≤ y ∧ y ≤ 2147483647) {V : Int} (g_V : M 15 0 = V) {P : Int} (g_P : M 27 y = P) (p0 : T = M) (p1 : 0 ≤ P ∧ P ≤ 65535) (q : ∀ (r : Int) (M' : jm), CI M' → FR W_c_PacketWall_change_x T M' → (-2147483648) ≤ r ∧ r ≤ 2147483647 → (((x < 0 ∨ 23 < x ∨ T (xe (V.toNat) x) 0 = 0) ∧ r = -2 ∧ M' = T) ∨ (((0 ≤ x ∧ x ≤ 23) ∧ T (xe (V.toNat) x) 0 ≠ 0) ∧ (((y < 0 ∨ 3 < y) ∧ r = -3 ∧ M' = T) ∨ ((0 ≤ y ∧ y ≤ 3) ∧ (T (xe (V.toNat) x) 1 ≠ 0 ∨ T (xe (V.toNat) x) 2 = 1 ∨ T (xe (V.toNat) x) 13 ≠ -1 ∨ T 28 y = 0) ∧ r = -4 ∧ M' = T) ∨ (((0 ≤ y ∧ y ≤ 3) ∧ ¬ (T (xe (V.toNat) x) 1 ≠ 0 ∨ T (xe (V.toNat) x) 2 = 1 ∨ T (xe (V.toNat) x) 13 ≠ -1 ∨ T 28 y = 0)) ∧ ((chf T V.toNat (T 26 y) (T 27 y) (T 28 y).toNat 0 = -1 ∧ r = -5 ∧ M' = T) ∨ (chf T V.toNat (T 26 y) (T 27 y) (T 28 y).toNat 0 ≠ -1 ∧ r = T 27 y + chf T V.toNat (T 26 y) (T 27 y) (T 28 y).toNat 0 ∧ M' = ju (ju (ju T (xe (V.toNat) x) 13 y) (xe (V.toNat) x) 14 (T 26 y)) (xe (V.toNat) x) 15 (T 27 y + chf T V.toNat (T 26 y) (T 27 y) (T 28 y).toNat 0))))))) → Q (some (.int (Int32.ofInt r))) M') : jc A 3 24 [.ref (0), .int (Int32.ofInt (x)), .int (Int32.ofInt (y))] M Q := by
  refine jc_of (m := xm_24) rfl (Nat.le_of_ble_eq_true rfl) rfl ?_
  have b_V : 16 ≤ V ∧ V ≤ 17 := by rw [← g_V]; exact (CI.r hC_M (show kd 15 = 9 from rfl) (by decide) 0)
  have b_P : (-2147483648) ≤ P ∧ P ≤ 2147483647 := by rw [← g_P]; exact (CI.r hC_M (show kd 27 = 11 from rfl) (by decide) y)
  refine jr.aload_n rfl rfl ?_
  refine jr.getf (i := 9) (v := .ref 15) rfl rfl (by decide) rfl (by decide) rfl rfl rfl rfl ?_
  refine jr.iload_n rfl rfl ?_
  refine jr_v rfl rfl (Or.inl rfl) rfl rfl (by decide) rfl ⟨rfl, Nat.le_of_ble_eq_true rfl, Nat.le_of_ble_eq_true rfl⟩ rfl (jc.deep (c_Flows_isLive_x hC_M (by omega) g_V (fun r1 z1 w1_0 w1_1 => ?_)) (by decide))
  refine jr.if_ne rfl rfl (by omega) (fun h8 => ?_) (fun h8 => ?_)
  · have sx8 : (1 : Int) ≤ r1 := by omega
    clear h8
    refine jr.aload_n rfl rfl ?_
    refine jr.getf (i := 9) (v := .ref 15) rfl rfl (by decide) rfl (by decide) rfl rfl rfl rfl ?_
    refine jr.aload_n rfl rfl ?_
    refine jr.getf (i := 9) (v := .ref 15) rfl rfl (by decide) rfl (by decide) rfl rfl rfl rfl ?_
    have k2 : kd (V).toNat = 13 := by rcases (show V = 16 ∨ V = 17 by omega) with h | h <;> (rw [h]; rfl)
    refine jr.getf (i := 0) (x := V) (v := .ref (V.toNat)) rfl rfl (by decide) rfl (by decide) rfl rfl g_V rfl ?_
    refine jr.iload_n rfl rfl ?_
    have k3 := kxe_13 k2 (i := x) (by omega) (by omega)
    refine jr.aald (c := (xe ((V.toNat)) x)) rfl (Nat.lt_trans (kx_13 k2).1 (by decide)) (kx_13 k2).2 (by decide) (by decide) rfl (by decide) (by omega) (by omega) k3.1 ?_
    refine jr.iload_n rfl rfl ?_
    refine jr_v rfl rfl (Or.inl rfl) rfl rfl (by decide) rfl ⟨rfl, Nat.le_of_ble_eq_true rfl, Nat.le_of_ble_eq_true rfl⟩ rfl (jc.deep (c_Flows_changeBy_x hC_M (FR.rfl _ M) k3.2 (by omega) g_V g_P rfl (by omega) (fun r4 M4 hC_M4 hf_M4 z4 w4_0 => ?_)) (by decide))
    have ht_M4 : FR W_c_PacketWall_change_x T M4 := FR.t ht_M hf_M4 (kw_sub rfl)
    exact jr.ireturn rfl rfl rfl (q _ _ hC_M4 ht_M4 (by omega) (Or.inr ⟨by rw [p0]; omega, by rw [p0]; exact w4_0⟩))
  · refine jr.bipush rfl (by decide) ?_
    exact jr.ireturn rfl rfl rfl (q _ _ hC_M ht_M (by omega) (Or.inl ⟨by rw [p0]; omega, by omega, p0.symm⟩))
end
section
/-! ===== the reference: flows: figures, pools, change ===== -/
noncomputable def fg6 (M : jm) (f w : Int) : Int := if w = 0 then M 629 f else if w = 1 then M 638 f else if w = 2 then M 631 (2 * f) else if w = 3 then M 631 (2 * f + 1) else if w = 4 then j_w (M 639 f - M 598 2) else if w = 5 then (if M 632 (2 * f) = 0 then 0 else M 633 (2 * f)) else if w = 6 then (if M 632 (2 * f + 1) = 0 then 0 else M 633 (2 * f + 1)) else if w = 7 then M 635 (2 * f) else if w = 8 then M 635 (2 * f + 1) else if w = 9 then (if M 640 f = -1 then -1 else M 642 f) else if w = 10 then (if M 628 f = 0 then 0 else 1) else -3
noncomputable def fl6 (M : jm) (f w : Int) : Int := if w = 0 then M 630 (2 * f) else if w = 1 then M 630 (2 * f + 1) else if w = 2 then M 636 (2 * f) else if w = 3 then M 636 (2 * f + 1) else if w = 4 then M 637 (2 * f) else if w = 5 then M 637 (2 * f + 1) else -1
end
