section
theorem c_PacketWall_flowed_x {A : Nat → Option (Nat × (Nat → Int32))} {Q : Option Value → jm → Prop} {M : jm} (hC_M : CI M) {x : Int} (h_x : (-2147483648) ≤ x ∧ x ≤ 2147483647) {y : Int} (h_y : (-2147483648) ≤ y ∧ y ≤ 2147483647) {V : Int} (g_V : M 15 0 = V) (q : ∀ (r : Int), (-9223372036854775808) ≤ r ∧ r ≤ 9223372036854775807 → (((x < 0 ∨ 23 < x ∨ M (xe (V.toNat) x) 0 = 0) ∧ r = -1) ∨ (((0 ≤ x ∧ x ≤ 23) ∧ M (xe (V.toNat) x) 0 ≠ 0) ∧ r = fgL M (xe (V.toNat) x) y)) → Q (some (.long (Int64.ofInt r))) M) : jc A 2 21 [.ref (0), .int (Int32.ofInt (x)), .int (Int32.ofInt (y))] M Q := by
  refine jc_of (m := xm_21) rfl (Nat.le_of_ble_eq_true rfl) rfl ?_
  have b_V : 16 ≤ V ∧ V ≤ 17 := by rw [← g_V]; exact (CI.r hC_M (show kd 15 = 9 from rfl) (by decide) 0)
  refine jr.aload_n rfl rfl ?_
  refine jr.getf (i := 9) (v := .ref 15) rfl rfl (by decide) rfl (by decide) rfl rfl rfl rfl ?_
  refine jr.iload_n rfl rfl ?_
  refine jr_v rfl rfl (Or.inl rfl) rfl rfl (by decide) rfl ⟨rfl, Nat.le_of_ble_eq_true rfl, Nat.le_of_ble_eq_true rfl⟩ rfl (jc.deep (c_Flows_isLive_x hC_M (by omega) g_V (fun r1 z1 w1_0 w1_1 => ?_)) (by decide))
  refine jr.if_eq rfl rfl (by omega) (fun h8 => ?_) (fun h8 => ?_)
  · refine jr.ldc2 (x := (-1)) rfl rfl (by decide) ?_
    exact jr.lreturn rfl rfl (q _ (by omega) (Or.inl ⟨by omega, by omega⟩))
  · have sx8 : (1 : Int) ≤ r1 := by omega
    clear h8
    refine jr.aload_n rfl rfl ?_
    refine jr.getf (i := 9) (v := .ref 15) rfl rfl (by decide) rfl (by decide) rfl rfl rfl rfl ?_
    have k2 : kd (V).toNat = 13 := by rcases (show V = 16 ∨ V = 17 by omega) with h | h <;> (rw [h]; rfl)
    refine jr.getf (i := 0) (x := V) (v := .ref (V.toNat)) rfl rfl (by decide) rfl (by decide) rfl rfl g_V rfl ?_
    refine jr.iload_n rfl rfl ?_
    have k3 := kxe_13 k2 (i := x) (by omega) (by omega)
    refine jr.aald (c := (xe ((V.toNat)) x)) rfl (Nat.lt_trans (kx_13 k2).1 (by decide)) (kx_13 k2).2 (by decide) (by decide) rfl (by decide) (by omega) (by omega) k3.1 ?_
    refine jr.iload_n rfl rfl ?_
    refine jr_v rfl rfl (Or.inl rfl) rfl rfl (Nat.lt_trans (kx_1 k3.2).1 (by decide)) (kx_1 k3.2).2 ⟨rfl, Nat.le_of_ble_eq_true rfl, Nat.le_of_ble_eq_true rfl⟩ rfl (jc.deep (c_Flow_longFigure_x hC_M k3.2 (by omega) (fun r4 z4 w4_0 => ?_)) (by decide))
    refine jr.goto rfl rfl ?_
    exact jr.lreturn rfl rfl (q _ (by omega) (Or.inr ⟨by omega, w4_0⟩))
noncomputable def W_c_PacketWall_close_x : List (Nat × Nat) := [(1, 0)]
theorem c_PacketWall_close_x {A : Nat → Option (Nat × (Nat → Int32))} {Q : Option Value → jm → Prop} {T : jm} {M : jm} (hC_M : CI M) (ht_M : FR W_c_PacketWall_close_x T M) {x : Int} (h_x : (-2147483648) ≤ x ∧ x ≤ 2147483647) {V : Int} (g_V : M 15 0 = V) (p0 : T = M) (q : ∀ (r : Int) (M' : jm), CI M' → FR W_c_PacketWall_close_x T M' → (-2147483648) ≤ r ∧ r ≤ 2147483647 → (((x < 0 ∨ 23 < x ∨ T (xe (V.toNat) x) 0 = 0) ∧ r = -2 ∧ M' = T) ∨ (((0 ≤ x ∧ x ≤ 23) ∧ T (xe (V.toNat) x) 0 ≠ 0) ∧ r = 1 ∧ M' = ju T (xe (V.toNat) x) 0 0)) → Q (some (.int (Int32.ofInt r))) M') : jc A 2 22 [.ref (0), .int (Int32.ofInt (x))] M Q := by
  refine jc_of (m := xm_22) rfl (Nat.le_of_ble_eq_true rfl) rfl ?_
  have b_V : 16 ≤ V ∧ V ≤ 17 := by rw [← g_V]; exact (CI.r hC_M (show kd 15 = 9 from rfl) (by decide) 0)
  refine jr.aload_n rfl rfl ?_
  refine jr.getf (i := 9) (v := .ref 15) rfl rfl (by decide) rfl (by decide) rfl rfl rfl rfl ?_
  refine jr.iload_n rfl rfl ?_
  refine jr_v rfl rfl (Or.inl rfl) rfl rfl (by decide) rfl ⟨rfl, Nat.le_of_ble_eq_true rfl, Nat.le_of_ble_eq_true rfl⟩ rfl (jc.deep (c_Flows_isLive_x hC_M (by omega) g_V (fun r1 z1 w1_0 w1_1 => ?_)) (by decide))
  refine jr.if_ne rfl rfl (by omega) (fun h8 => ?_) (fun h8 => ?_)
  · have sx8 : (1 : Int) ≤ r1 := by omega
    clear h8
    refine jr.aload_n rfl rfl ?_
    refine jr.getf (i := 9) (v := .ref 15) rfl rfl (by decide) rfl (by decide) rfl rfl rfl rfl ?_
    have k2 : kd (V).toNat = 13 := by rcases (show V = 16 ∨ V = 17 by omega) with h | h <;> (rw [h]; rfl)
    refine jr.getf (i := 0) (x := V) (v := .ref (V.toNat)) rfl rfl (by decide) rfl (by decide) rfl rfl g_V rfl ?_
    refine jr.iload_n rfl rfl ?_
    have k3 := kxe_13 k2 (i := x) (by omega) (by omega)
    refine jr.aald (c := (xe ((V.toNat)) x)) rfl (Nat.lt_trans (kx_13 k2).1 (by decide)) (kx_13 k2).2 (by decide) (by decide) rfl (by decide) (by omega) (by omega) k3.1 ?_
    refine jr.iconst rfl ?_
    refine jr.putf (i := 0) (x := 0) rfl rfl (Nat.lt_trans (kx_1 k3.2).1 (by decide)) (kx_1 k3.2).2 (by decide) rfl rfl rfl rfl rfl ?_
    refine jr.iconst rfl ?_
    exact jr.ireturn rfl rfl rfl (q _ _ (CI.u hC_M (i := 0) k3.2 (show (0 : Int) ≤ _ ∧ _ ≤ (1 : Int) from by omega) rfl) (FR.o ht_M k3.2 rfl) (by omega) (Or.inr ⟨by rw [p0]; omega, by omega, by rw [p0]⟩))
  · refine jr.bipush rfl (by decide) ?_
    exact jr.ireturn rfl rfl rfl (q _ _ hC_M ht_M (by omega) (Or.inl ⟨by rw [p0]; omega, by omega, p0.symm⟩))
/-- a flow that is changed by pool k, from f on -/
noncomputable def pu (M : jm) (V : Nat) (k : Int) : Nat → Int → Int
  | 0, _ => 0
  | n + 1, i => if M (xe V i) 0 ≠ 0 ∧ M (xe V i) 13 = k then 1 else pu M V k n (i + 1)
theorem pu_s {M : jm} {V : Nat} {k i : Int} (h : i < 24) : pu M V k (24 - i).toNat i = if M (xe V i) 0 ≠ 0 ∧ M (xe V i) 13 = k then 1 else pu M V k (24 - (i + 1)).toNat (i + 1) := by
  obtain ⟨n, hn⟩ : ∃ n : Nat, i = 23 - n := ⟨(23 - i).toNat, by omega⟩
  subst hn
  rw [show (24 - (23 - (n : Int))).toNat = n + 1 by omega, show (24 - (23 - (n : Int) + 1)).toNat = n by omega]
  rfl
/-- a port that is taken, from f on -/
noncomputable def tk (M : jm) (V : Nat) (a o : Int) : Nat → Int → Int
  | 0, _ => 0
  | n + 1, i => if M (xe V i) 0 ≠ 0 ∧ M (xe V i) 13 ≠ -1 ∧ M (xe V i) 14 = a ∧ M (xe V i) 15 = o then 1 else tk M V a o n (i + 1)
theorem tk_s {M : jm} {V : Nat} {a o i : Int} (h : i < 24) : tk M V a o (24 - i).toNat i = if M (xe V i) 0 ≠ 0 ∧ M (xe V i) 13 ≠ -1 ∧ M (xe V i) 14 = a ∧ M (xe V i) 15 = o then 1 else tk M V a o (24 - (i + 1)).toNat (i + 1) := by
  obtain ⟨n, hn⟩ : ∃ n : Nat, i = 23 - n := ⟨(23 - i).toNat, by omega⟩
  subst hn
  rw [show (24 - (23 - (n : Int))).toNat = n + 1 by omega, show (24 - (23 - (n : Int) + 1)).toNat = n by omega]
  rfl
noncomputable def W_c_Flows_layPool_x : List (Nat × Nat) := [(10, 1000), (11, 1000), (12, 1000)]
end
