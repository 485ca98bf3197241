section
theorem c_Flows_readTable_x_L14 {A : Nat → Option (Nat × (Nat → Int32))} {Q : Option Value → jm → Prop} {T : jm} {V : Int} {W_ : Int} {y : Int} {z : Int} (q : ∀ (r : Int) (M' : jm), CI M' → FR W_c_Flows_readTable_x T M' → (-50) ≤ r ∧ r ≤ 34 → (RTQ T M' V W_ y z r) → Q (some (.int (Int32.ofInt r))) M') : ∀ (nM : Nat) (M : jm) (w : Int) (i : Int), CI M → FR W_c_Flows_readTable_x T M → 0 ≤ y ∧ y ≤ 1600 → 0 ≤ z ∧ z ≤ 2000000000 → 0 ≤ w ∧ w ≤ 34 → 0 ≤ i ∧ i ≤ 34 → M 15 0 = V → M 15 1 = W_ → (w = (y + 47) / 48) → (i ≤ w) → (TBS T M W_ y z i) → (V + W_ = 33) → 34 - i ≤ nM → jr A 3 xm_84 14 [(2, .int (Int32.ofInt (y))), (3, .int (Int32.ofInt (z))), (4, .int (Int32.ofInt (w))), (5, .int (Int32.ofInt (i))), (0, .ref (15)), (1, .ref (1))] [] M Q := by
  intro nM
  induction nM using Nat.strongRecOn with
  | ind nM ih =>
    intro M w i hC_M ht_M h_y h_z h_w h_i g_V g_W_ hy0 hy1 hy2 hy3 hm
    have b_V : 16 ≤ V ∧ V ≤ 17 := by rw [← g_V]; exact (CI.r hC_M (show kd 15 = 9 from rfl) (by decide) 0)
    have b_W_ : 16 ≤ W_ ∧ W_ ≤ 17 := by rw [← g_W_]; exact (CI.r hC_M (show kd 15 = 9 from rfl) (by decide) 1)
    have hi24 := TBS.le hy2
    refine jr.iload rfl rfl ?_
    refine jr.iload rfl rfl ?_
    refine jr.icmp_ge rfl rfl (by omega) (by omega) (fun h18 => ?_) (fun h18 => ?_)
    · refine jr.iload rfl rfl ?_
      refine jr.istore (ls' := [_, _, _, _, _, _]) rfl (by decide) rfl ?_
      refine jr.pick (ls := [_, _, _, _]) [3, 0, 4, 5] rfl rfl ?_
      exact c_Flows_readTable_x_L96  q 24 M w w hC_M ht_M (by omega) (by omega) g_V g_W_ ⟨fun k k0 k1 => hy2.1 k k0 (by omega), fun k k0 k1 => absurd k1 (by omega)⟩ (by omega) (by omega) (by omega)
    · refine jr.iload rfl rfl ?_
      refine jr.iconst rfl ?_
      refine jr.iadd rfl ?_
      refine jr.bipush rfl (by decide) ?_
      refine jr.imul rfl ?_
      refine jr.iload_n rfl rfl ?_
      refine jr.icmp_gt rfl rfl (by omega) (by omega) (fun h29 => ?_) (fun h29 => ?_)
      · refine jr.iconst rfl ?_
        refine jr.istore (ls' := [_, _, _, _, _, _, _]) rfl (by decide) rfl ?_
        refine jr.iload rfl rfl ?_
        refine jr.bipush rfl (by decide) ?_
        refine jr.icmp_ge rfl rfl (by omega) (by omega) (fun h43 => ?_) (fun h43 => ?_)
        · refine jr.bipush rfl (by decide) ?_
          refine jr.iload rfl rfl ?_
          refine jr.isub rfl ?_
          exact jr.ireturn rfl rfl rfl (q _ _ hC_M ht_M (by omega) (TBS.r hy2 (by omega) (by omega) (fun u => by have u1 := u.1; omega) hy2.2))
        · refine jr.iload rfl rfl ?_
          refine jr.if_eq rfl rfl (by omega) (fun _ => ?_) (fun h => absurd (by decide) h)
          refine jr.bipush rfl (by decide) ?_
          refine jr.iload rfl rfl ?_
          refine jr.isub rfl ?_
          exact jr.ireturn rfl rfl rfl (q _ _ hC_M ht_M (by omega) (TBS.r hy2 (by omega) (by omega) (fun u => by have u1 := u.1; omega) hy2.2))
      · refine jr.iconst rfl ?_
        refine jr.goto rfl rfl ?_
        refine jr.istore (ls' := [_, _, _, _, _, _, _]) rfl (by decide) rfl ?_
        refine jr.iload rfl rfl ?_
        refine jr.bipush rfl (by decide) ?_
        refine jr.icmp_ge rfl rfl (by omega) (by omega) (fun h43 => ?_) (fun h43 => ?_)
        · refine jr.bipush rfl (by decide) ?_
          refine jr.iload rfl rfl ?_
          refine jr.isub rfl ?_
          exact jr.ireturn rfl rfl rfl (q _ _ hC_M ht_M (by omega) (TBS.r hy2 (by omega) (by omega) (fun u => by have u1 := u.1; omega) hy2.2))
        · refine jr.iload rfl rfl ?_
          refine jr.if_eq rfl rfl (by omega) (fun h => absurd h (by decide)) (fun _ => ?_)
          refine jr.aload_n rfl rfl ?_
          have k1 : kd (W_).toNat = 13 := by rcases (show W_ = 16 ∨ W_ = 17 by omega) with h | h <;> (rw [h]; rfl)
          refine jr.getf (i := 1) (x := W_) (v := .ref (W_.toNat)) rfl rfl (by decide) rfl (by decide) rfl rfl g_W_ rfl ?_
          refine jr.iload rfl rfl ?_
          have k2 := kxe_13 k1 (i := i) (by omega) (by omega)
          refine jr.aald (c := (xe ((W_.toNat)) i)) rfl (Nat.lt_trans (kx_13 k1).1 (by decide)) (kx_13 k1).2 (by decide) (by decide) rfl (by decide) (by omega) (by omega) k2.1 ?_
          refine jr.aload_n rfl rfl ?_
          refine jr.iload rfl rfl ?_
          refine jr.bipush rfl (by decide) ?_
          refine jr.imul rfl ?_
          refine jr.iload_n rfl rfl ?_
          refine jr_v rfl rfl (Or.inl rfl) rfl rfl (Nat.lt_trans (kx_1 k2.2).1 (by decide)) (kx_1 k2.2).2 ⟨rfl, Nat.le_of_ble_eq_true rfl, Nat.le_of_ble_eq_true rfl⟩ rfl (jc.deep (c_Flow_readRow_x hC_M (FR.rfl _ M) k2.2 (by omega) (by omega) rfl (fun r3 M3 hC_M3 hf_M3 z3 w3_0 => ?_)) (by decide))
          have ht_M3 : FR W_c_Flows_readTable_x T M3 := FR.t ht_M hf_M3 (kw_sub rfl)
          refine jr.if_eq rfl rfl (by omega) (fun h68 => ?_) (fun h68 => ?_)
          · refine jr.bipush rfl (by decide) ?_
            refine jr.iload rfl rfl ?_
            refine jr.isub rfl ?_
            exact jr.ireturn rfl rfl rfl (q _ _ hC_M3 ht_M3 (by omega) (TBS.r hy2 (by omega) (by omega) (TBS.bad hy2 (by omega) rfl ((w3_0.2.2.resolve_left (fun h => by omega)).2)) (TBS.f hy2 (by omega) (by omega) rfl w3_0.2.1 w3_0.1).2))
          · have sx68 : (1 : Int) ≤ r3 := by omega
            clear h68
            refine jr.aload_n rfl rfl ?_
            refine jr.iload rfl rfl ?_
            have e5 : M3 15 1 = W_ := (hf_M3.g (show kd 15 = 9 from rfl) rfl).trans g_W_
            refine jr_v rfl rfl (Or.inl rfl) rfl rfl (by decide) rfl ⟨rfl, Nat.le_of_ble_eq_true rfl, Nat.le_of_ble_eq_true rfl⟩ rfl (jc.deep (c_Flows_isTold_x hC_M3 (by omega) e5 (fun r4 z4 w4_0 => ?_)) (by decide))
            refine jr.if_eq rfl rfl (by omega) (fun h77 => ?_) (fun h77 => ?_)
            · refine jr.iinc (ls' := [_, _, _, _, _, _, _]) rfl rfl (by decide) rfl ?_
              refine jr.goto rfl rfl ?_
              have e6 : M3 15 0 = V := (hf_M3.g (show kd 15 = 9 from rfl) rfl).trans g_V
              refine jr.pick (ls := [_, _, _, _, _, _]) [2, 3, 4, 0, 5, 6] rfl rfl ?_
              exact ih (nM - 1) (by omega) M3 w (i + 1) hC_M3 ht_M3 (by omega) (by omega) (by omega) (by omega) e6 e5 (by omega) (by omega) (TBS.ok hy2 (by omega) (by omega) rfl w3_0.2.1 w3_0.1 (by omega) ((w3_0.2.2.resolve_right (fun h => by omega)).2) ((w4_0.resolve_left (fun h => by omega)).2)) (by omega) (by omega)
            · have sx77 : (1 : Int) ≤ r4 := by omega
              clear h77
              refine jr.bipush rfl (by decide) ?_
              refine jr.iload rfl rfl ?_
              refine jr.isub rfl ?_
              exact jr.ireturn rfl rfl rfl (q _ _ hC_M3 ht_M3 (by omega) (TBS.r hy2 (by omega) (by omega) (TBS.no hy2 (by omega) (by omega) rfl w3_0.2.1 w3_0.1 ((w4_0.resolve_right (fun h => by omega)).2)) (TBS.f hy2 (by omega) (by omega) rfl w3_0.2.1 w3_0.1).2))
theorem c_Flows_readTable_x {A : Nat → Option (Nat × (Nat → Int32))} {Q : Option Value → jm → Prop} {T : jm} {M : jm} (hC_M : CI M) (ht_M : FR W_c_Flows_readTable_x T M) {y : Int} (h_y : 0 ≤ y ∧ y ≤ 1600) {z : Int} (h_z : 0 ≤ z ∧ z ≤ 2000000000) {V : Int} (g_V : M 15 0 = V) {W_ : Int} (g_W_ : M 15 1 = W_) (p0 : T = M) (p1 : V + W_ = 33) (q : ∀ (r : Int) (M' : jm), CI M' → FR W_c_Flows_readTable_x T M' → (-50) ≤ r ∧ r ≤ 34 → (RTQ T M' V W_ y z r) → Q (some (.int (Int32.ofInt r))) M') : jc A 4 84 [.ref (15), .ref (1), .int (Int32.ofInt (y)), .int (Int32.ofInt (z))] M Q := by
  refine jc_of (m := xm_84) rfl (Nat.le_of_ble_eq_true rfl) rfl ?_
  have b_V : 16 ≤ V ∧ V ≤ 17 := by rw [← g_V]; exact (CI.r hC_M (show kd 15 = 9 from rfl) (by decide) 0)
  have b_W_ : 16 ≤ W_ ∧ W_ ≤ 17 := by rw [← g_W_]; exact (CI.r hC_M (show kd 15 = 9 from rfl) (by decide) 1)
  refine jr.iload_n rfl rfl ?_
  refine jr.bipush rfl (by decide) ?_
  refine jr.iadd rfl ?_
  refine jr.iconst rfl ?_
  refine jr.isub rfl ?_
  refine jr.bipush rfl (by decide) ?_
  refine jr.idiv rfl (by decide) ?_
  have b1 : j_div ((y + 48) - 1) 48 = ((y + 48) - 1) / 48 := j_div_ex (by omega) (by omega)
  generalize j_div ((y + 48) - 1) 48 = v1 at b1 ⊢
  refine jr.istore (ls' := [_, _, _, _, _]) rfl (by decide) rfl ?_
  refine jr.iconst rfl ?_
  refine jr.istore (ls' := [_, _, _, _, _, _]) rfl (by decide) rfl ?_
  refine jr.pick (ls := [_, _, _, _, _, _]) [4, 5, 1, 0, 2, 3] rfl rfl ?_
  exact c_Flows_readTable_x_L14  q 34 M v1 0 hC_M ht_M (by omega) (by omega) (by omega) (by omega) g_V g_W_ (by omega) (by omega) ⟨fun k k0 k1 => absurd k1 (by omega), fun _ _ _ => by rw [p0]⟩ (by omega) (by omega)
noncomputable def W_c_PacketWall_restore_x : List (Nat × Nat) := [(1, 0), (1, 1), (1, 2), (1, 5), (1, 6), (1, 12), (1, 13), (1, 15), (2, 1000), (3, 1000), (4, 1000), (5, 1000), (6, 1000), (7, 1000), (8, 1000), (9, 0), (9, 1), (35, 1)]
end
