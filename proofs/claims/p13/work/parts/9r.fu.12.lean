section
noncomputable def uC (T : jm) (V : Nat) (i : Int) : Int := if T (xe V i) 0 ≠ 0 ∧ T (xe V i) 13 = -1 then 1 else 0
noncomputable def bC (T : jm) (V : Nat) (Z i : Int) : Int → Int := rcB T (xe V i) Z
theorem uC_0 {T : jm} {V : Nat} {i : Int} (h : ¬ (T (xe V i) 0 ≠ 0 ∧ T (xe V i) 13 = -1)) : uC T V i = 0 := if_neg h
theorem uC_1 {T : jm} {V : Nat} {i : Int} (h : T (xe V i) 0 ≠ 0 ∧ T (xe V i) 13 = -1) : uC T V i = 1 := if_pos h
noncomputable def W_c_Flows_layTable_x : List (Nat × Nat) := [(43, 1000)]
theorem c_Flows_layTable_x_L5 {A : Nat → Option (Nat × (Nat → Int32))} {Q : Option Value → jm → Prop} {T : jm} {V : Int} {y : Int} (q : ∀ (r : Int) (M' : jm), CI M' → FR W_c_Flows_layTable_x T M' → 0 ≤ r ∧ r ≤ 1152 → ((M' 1 = (exL (uC T V.toNat) (bC T V.toNat y) (T 1) 24).1 ∧ r = (exL (uC T V.toNat) (bC T V.toNat y) (T 1) 24).2) ∧ ∀ (b : Nat) (k : Int), b ≠ 1 → M' b k = T b k) → Q (some (.int (Int32.ofInt r))) M') : ∀ (nM : Nat) (M : jm) (n : Int) (i : Int), CI M → FR W_c_Flows_layTable_x T M → 0 ≤ y ∧ y ≤ 2000000000 → 0 ≤ n ∧ n ≤ 1152 → 0 ≤ i ∧ i ≤ 24 → M 15 0 = V → (M 1 = (exL (uC T V.toNat) (bC T V.toNat y) (T 1) i.toNat).1 ∧ n = (exL (uC T V.toNat) (bC T V.toNat y) (T 1) i.toNat).2) → (∀ (b : Nat) (k : Int), b ≠ 1 → M b k = T b k) → (n ≤ 48 * i) → 24 - i ≤ nM → jr A 3 xm_83 5 [(2, .int (Int32.ofInt (y))), (3, .int (Int32.ofInt (n))), (4, .int (Int32.ofInt (i))), (0, .ref (15)), (1, .ref (1))] [] M Q := by
  intro nM
  induction nM using Nat.strongRecOn with
  | ind nM ih =>
    intro M n i hC_M ht_M h_y h_n h_i g_V hy0 hy1 hy2 hm
    have b_V : 16 ≤ V ∧ V ≤ 17 := by rw [← g_V]; exact (CI.r hC_M (show kd 15 = 9 from rfl) (by decide) 0)
    refine jr.iload rfl rfl ?_
    refine jr.bipush rfl (by decide) ?_
    refine jr.icmp_ge rfl rfl (by omega) (by omega) (fun h9 => ?_) (fun h9 => ?_)
    · refine jr.iload_n rfl rfl ?_
      exact jr.ireturn rfl rfl rfl (q _ _ hC_M ht_M (by omega) ⟨by have h9 := hy0; rw [show i = 24 from by omega] at h9; exact h9, hy1⟩)
    · refine jr.aload_n rfl rfl ?_
      have k1 : kd (V).toNat = 13 := by rcases (show V = 16 ∨ V = 17 by omega) with h | h <;> (rw [h]; rfl)
      refine jr.getf (i := 0) (x := V) (v := .ref (V.toNat)) rfl rfl (by decide) rfl (by decide) rfl rfl g_V rfl ?_
      refine jr.iload rfl rfl ?_
      have k2 := kxe_13 k1 (i := i) (by omega) (by omega)
      refine jr.aald (c := (xe ((V.toNat)) i)) rfl (Nat.lt_trans (kx_13 k1).1 (by decide)) (kx_13 k1).2 (by decide) (by decide) rfl (by decide) (by omega) (by omega) k2.1 ?_
      obtain ⟨v3, e3⟩ : ∃ z_, M ((xe ((V.toNat)) i)) 0 = z_ := ⟨_, rfl⟩
      have b3 : 0 ≤ v3 ∧ v3 ≤ 1 := by rw [← e3]; exact (CI.r hC_M k2.2 (by decide) 0)
      refine jr.getf (i := 0) (x := v3) (v := .int (Int32.ofInt (v3))) rfl rfl (Nat.lt_trans (kx_1 k2.2).1 (by decide)) (kx_1 k2.2).2 (by decide) rfl rfl e3 rfl ?_
      refine jr.if_eq rfl rfl (by omega) (fun h22 => ?_) (fun h22 => ?_)
      · refine jr.iinc (ls' := [_, _, _, _, _]) rfl rfl (by decide) rfl ?_
        refine jr.goto rfl rfl ?_
        refine jr.pick (ls := [_, _, _, _, _]) [1, 2, 0, 3, 4] rfl rfl ?_
        exact ih (nM - 1) (by omega) M n (i + 1) hC_M ht_M (by omega) (by omega) (by omega) g_V (by rw [exL_s (by omega), if_pos (uC_0 (fun u => by rw [← hy1 _ 0 (kd_ne (by rw [k2.2]; decide)), e3] at u; omega))]; exact hy0) hy1 (by omega) (by omega)
      · have sx22 : (1 : Int) ≤ v3 := by omega
        clear h22
        refine jr.aload_n rfl rfl ?_
        have k4 : kd (V).toNat = 13 := by rcases (show V = 16 ∨ V = 17 by omega) with h | h <;> (rw [h]; rfl)
        refine jr.getf (i := 0) (x := V) (v := .ref (V.toNat)) rfl rfl (by decide) rfl (by decide) rfl rfl g_V rfl ?_
        refine jr.iload rfl rfl ?_
        have k5 := kxe_13 k4 (i := i) (by omega) (by omega)
        refine jr.aald (c := (xe ((V.toNat)) i)) rfl (Nat.lt_trans (kx_13 k4).1 (by decide)) (kx_13 k4).2 (by decide) (by decide) rfl (by decide) (by omega) (by omega) k5.1 ?_
        obtain ⟨v6, e6⟩ : ∃ z_, M ((xe ((V.toNat)) i)) 13 = z_ := ⟨_, rfl⟩
        have b6 : (-2147483648) ≤ v6 ∧ v6 ≤ 2147483647 := by rw [← e6]; exact (CI.r hC_M k5.2 (by decide) 13)
        refine jr.getf (i := 13) (x := v6) (v := .int (Int32.ofInt (v6))) rfl rfl (Nat.lt_trans (kx_1 k5.2).1 (by decide)) (kx_1 k5.2).2 (by decide) rfl rfl e6 rfl ?_
        refine jr.iconst rfl ?_
        refine jr.icmp_ne rfl rfl (by omega) (by omega) (fun h36 => ?_) (fun h36 => ?_)
        · refine jr.iinc (ls' := [_, _, _, _, _]) rfl rfl (by decide) rfl ?_
          refine jr.goto rfl rfl ?_
          refine jr.pick (ls := [_, _, _, _, _]) [1, 2, 0, 3, 4] rfl rfl ?_
          exact ih (nM - 1) (by omega) M n (i + 1) hC_M ht_M (by omega) (by omega) (by omega) g_V (by rw [exL_s (by omega), if_pos (uC_0 (fun u => by rw [← hy1 _ 0 (kd_ne (by rw [k5.2]; decide)), ← hy1 _ 13 (kd_ne (by rw [k5.2]; decide)), e3, e6] at u; omega))]; exact hy0) hy1 (by omega) (by omega)
        · refine jr.aload_n rfl rfl ?_
          have k7 : kd (V).toNat = 13 := by rcases (show V = 16 ∨ V = 17 by omega) with h | h <;> (rw [h]; rfl)
          refine jr.getf (i := 0) (x := V) (v := .ref (V.toNat)) rfl rfl (by decide) rfl (by decide) rfl rfl g_V rfl ?_
          refine jr.iload rfl rfl ?_
          have k8 := kxe_13 k7 (i := i) (by omega) (by omega)
          refine jr.aald (c := (xe ((V.toNat)) i)) rfl (Nat.lt_trans (kx_13 k7).1 (by decide)) (kx_13 k7).2 (by decide) (by decide) rfl (by decide) (by omega) (by omega) k8.1 ?_
          refine jr.aload_n rfl rfl ?_
          refine jr.iload_n rfl rfl ?_
          refine jr.iload_n rfl rfl ?_
          refine jr_v rfl rfl (Or.inl rfl) rfl rfl (Nat.lt_trans (kx_1 k8.2).1 (by decide)) (kx_1 k8.2).2 ⟨rfl, Nat.le_of_ble_eq_true rfl, Nat.le_of_ble_eq_true rfl⟩ rfl (jc.deep (c_Flow_layRow_x hC_M (FR.rfl _ M) k8.2 (by omega) (by omega) rfl (fun M9 hC_M9 hf_M9 w9_0 => ?_)) (by decide))
          have ht_M9 : FR W_c_Flows_layTable_x T M9 := FR.t ht_M hf_M9 (kw_sub rfl)
          refine jr.iinc (ls' := [_, _, _, _, _]) rfl rfl (by decide) rfl ?_
          refine jr.iinc (ls' := [_, _, _, _, _]) rfl rfl (by decide) rfl ?_
          refine jr.goto rfl rfl ?_
          have e10 : M9 15 0 = V := (hf_M9.g (show kd 15 = 9 from rfl) rfl).trans g_V
          refine jr.pick (ls := [_, _, _, _, _]) [2, 1, 0, 3, 4] rfl rfl ?_
          exact ih (nM - 1) (by omega) M9 (n + 48) (i + 1) hC_M9 ht_M9 (by omega) (by omega) (by omega) e10 (by rw [exL_s (by omega), if_neg (by rw [uC_1 ⟨by rw [← hy1 _ 0 (kd_ne (by rw [k8.2]; decide)), e3]; omega, by rw [← hy1 _ 13 (kd_ne (by rw [k8.2]; decide)), e6]; omega⟩]; decide)]; exact ⟨by rw [w9_0.1, rcB_e hy1 (by have q := xfl (V := V) (i := i) (by omega) (by omega); omega), hy0.1, hy0.2]; rfl, by rw [hy0.2]⟩) (fun b k hb => (w9_0.2 b k hb).trans (hy1 b k hb)) (by omega) (by omega)
theorem c_Flows_layTable_x {A : Nat → Option (Nat × (Nat → Int32))} {Q : Option Value → jm → Prop} {T : jm} {M : jm} (hC_M : CI M) (ht_M : FR W_c_Flows_layTable_x T M) {y : Int} (h_y : 0 ≤ y ∧ y ≤ 2000000000) {V : Int} (g_V : M 15 0 = V) (p0 : T = M) (q : ∀ (r : Int) (M' : jm), CI M' → FR W_c_Flows_layTable_x T M' → 0 ≤ r ∧ r ≤ 1152 → ((M' 1 = (exL (uC T V.toNat) (bC T V.toNat y) (T 1) 24).1 ∧ r = (exL (uC T V.toNat) (bC T V.toNat y) (T 1) 24).2) ∧ ∀ (b : Nat) (k : Int), b ≠ 1 → M' b k = T b k) → Q (some (.int (Int32.ofInt r))) M') : jc A 4 83 [.ref (15), .ref (1), .int (Int32.ofInt (y))] M Q := by
  refine jc_of (m := xm_83) rfl (Nat.le_of_ble_eq_true rfl) rfl ?_
  have b_V : 16 ≤ V ∧ V ≤ 17 := by rw [← g_V]; exact (CI.r hC_M (show kd 15 = 9 from rfl) (by decide) 0)
  refine jr.iconst rfl ?_
  refine jr.istore_n (ls' := [_, _, _, _]) rfl (by decide) rfl ?_
  refine jr.iconst rfl ?_
  refine jr.istore (ls' := [_, _, _, _, _]) rfl (by decide) rfl ?_
  refine jr.pick (ls := [_, _, _, _, _]) [4, 1, 0, 2, 3] rfl rfl ?_
  exact c_Flows_layTable_x_L5  q 24 M 0 0 hC_M ht_M (by omega) (by omega) (by omega) g_V ⟨by rw [p0]; rfl, rfl⟩ (fun b k _ => by rw [p0]) (by omega) (by omega)
noncomputable def W_c_PacketWall_export_x : List (Nat × Nat) := [(35, 1), (43, 1000)]
end
