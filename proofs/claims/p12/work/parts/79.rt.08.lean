section
theorem c_Gathering_isNamedLike_x {A : Nat → Option (Nat × (Nat → Int32))} {Q : Option Value → jm → Prop} {M : jm} (hC_M : CI M) {t : Nat} (k_t : kd t = 15) {x : Nat} (k_x : kd x = 15) (q : ∀ (r : Int), 0 ≤ r ∧ r ≤ 1 → ((r = 1 ∧ (M t 1 = M x 1 ∧ M t 2 = M x 2 ∧ M t 3 = M x 3 ∧ M t 4 = M x 4 ∧ M t 5 = M x 5)) ∨ (r = 0 ∧ ¬ (M t 1 = M x 1 ∧ M t 2 = M x 2 ∧ M t 3 = M x 3 ∧ M t 4 = M x 4 ∧ M t 5 = M x 5))) → Q (some (.int (Int32.ofInt r))) M) : jc A 1 94 [.ref (t), .ref (x)] M Q := by
  refine jc_of (m := xm_94) rfl (Nat.le_of_ble_eq_true rfl) rfl ?_
  refine jr.aload_n rfl rfl ?_
  obtain ⟨v1, e1⟩ : ∃ z_, M t 1 = z_ := ⟨_, rfl⟩
  have b1 : (-2147483648) ≤ v1 ∧ v1 ≤ 2147483647 := by rw [← e1]; exact (CI.r hC_M k_t (by decide) 1)
  refine jr.getf (i := 1) (x := v1) (v := .int (Int32.ofInt (v1))) rfl rfl (Nat.lt_trans (kx_15 k_t).1 (by decide)) (kx_15 k_t).2 (by decide) rfl rfl e1 rfl ?_
  refine jr.aload_n rfl rfl ?_
  obtain ⟨v2, e2⟩ : ∃ z_, M x 1 = z_ := ⟨_, rfl⟩
  have b2 : (-2147483648) ≤ v2 ∧ v2 ≤ 2147483647 := by rw [← e2]; exact (CI.r hC_M k_x (by decide) 1)
  refine jr.getf (i := 1) (x := v2) (v := .int (Int32.ofInt (v2))) rfl rfl (Nat.lt_trans (kx_15 k_x).1 (by decide)) (kx_15 k_x).2 (by decide) rfl rfl e2 rfl ?_
  refine jr.icmp_ne rfl rfl (by omega) (by omega) (fun h8 => ?_) (fun h8 => ?_)
  · refine jr.iconst rfl ?_
    exact jr.ireturn rfl rfl rfl (q _ (by omega) (by omega))
  · refine jr.aload_n rfl rfl ?_
    obtain ⟨v3, e3⟩ : ∃ z_, M t 2 = z_ := ⟨_, rfl⟩
    have b3 : (-9223372036854775808) ≤ v3 ∧ v3 ≤ 9223372036854775807 := by rw [← e3]; exact (CI.r hC_M k_t (by decide) 2)
    refine jr.getf (i := 2) (x := v3) (v := .long (Int64.ofInt (v3))) rfl rfl (Nat.lt_trans (kx_15 k_t).1 (by decide)) (kx_15 k_t).2 (by decide) rfl rfl e3 rfl ?_
    refine jr.aload_n rfl rfl ?_
    obtain ⟨v4, e4⟩ : ∃ z_, M x 2 = z_ := ⟨_, rfl⟩
    have b4 : (-9223372036854775808) ≤ v4 ∧ v4 ≤ 9223372036854775807 := by rw [← e4]; exact (CI.r hC_M k_x (by decide) 2)
    refine jr.getf (i := 2) (x := v4) (v := .long (Int64.ofInt (v4))) rfl rfl (Nat.lt_trans (kx_15 k_x).1 (by decide)) (kx_15 k_x).2 (by decide) rfl rfl e4 rfl ?_
    refine jr.lcmp_ne rfl rfl rfl (by omega) (by omega) (fun h19 => ?_) (fun h19 => ?_)
    · refine jr.iconst rfl ?_
      exact jr.ireturn rfl rfl rfl (q _ (by omega) (by omega))
    · refine jr.aload_n rfl rfl ?_
      obtain ⟨v5, e5⟩ : ∃ z_, M t 3 = z_ := ⟨_, rfl⟩
      have b5 : (-9223372036854775808) ≤ v5 ∧ v5 ≤ 9223372036854775807 := by rw [← e5]; exact (CI.r hC_M k_t (by decide) 3)
      refine jr.getf (i := 3) (x := v5) (v := .long (Int64.ofInt (v5))) rfl rfl (Nat.lt_trans (kx_15 k_t).1 (by decide)) (kx_15 k_t).2 (by decide) rfl rfl e5 rfl ?_
      refine jr.aload_n rfl rfl ?_
      obtain ⟨v6, e6⟩ : ∃ z_, M x 3 = z_ := ⟨_, rfl⟩
      have b6 : (-9223372036854775808) ≤ v6 ∧ v6 ≤ 9223372036854775807 := by rw [← e6]; exact (CI.r hC_M k_x (by decide) 3)
      refine jr.getf (i := 3) (x := v6) (v := .long (Int64.ofInt (v6))) rfl rfl (Nat.lt_trans (kx_15 k_x).1 (by decide)) (kx_15 k_x).2 (by decide) rfl rfl e6 rfl ?_
      refine jr.lcmp_ne rfl rfl rfl (by omega) (by omega) (fun h31 => ?_) (fun h31 => ?_)
      · refine jr.iconst rfl ?_
        exact jr.ireturn rfl rfl rfl (q _ (by omega) (by omega))
      · refine jr.aload_n rfl rfl ?_
        obtain ⟨v7, e7⟩ : ∃ z_, M t 4 = z_ := ⟨_, rfl⟩
        have b7 : (-9223372036854775808) ≤ v7 ∧ v7 ≤ 9223372036854775807 := by rw [← e7]; exact (CI.r hC_M k_t (by decide) 4)
        refine jr.getf (i := 4) (x := v7) (v := .long (Int64.ofInt (v7))) rfl rfl (Nat.lt_trans (kx_15 k_t).1 (by decide)) (kx_15 k_t).2 (by decide) rfl rfl e7 rfl ?_
        refine jr.aload_n rfl rfl ?_
        obtain ⟨v8, e8⟩ : ∃ z_, M x 4 = z_ := ⟨_, rfl⟩
        have b8 : (-9223372036854775808) ≤ v8 ∧ v8 ≤ 9223372036854775807 := by rw [← e8]; exact (CI.r hC_M k_x (by decide) 4)
        refine jr.getf (i := 4) (x := v8) (v := .long (Int64.ofInt (v8))) rfl rfl (Nat.lt_trans (kx_15 k_x).1 (by decide)) (kx_15 k_x).2 (by decide) rfl rfl e8 rfl ?_
        refine jr.lcmp_ne rfl rfl rfl (by omega) (by omega) (fun h43 => ?_) (fun h43 => ?_)
        · refine jr.iconst rfl ?_
          exact jr.ireturn rfl rfl rfl (q _ (by omega) (by omega))
        · refine jr.aload_n rfl rfl ?_
          obtain ⟨v9, e9⟩ : ∃ z_, M t 5 = z_ := ⟨_, rfl⟩
          have b9 : (-9223372036854775808) ≤ v9 ∧ v9 ≤ 9223372036854775807 := by rw [← e9]; exact (CI.r hC_M k_t (by decide) 5)
          refine jr.getf (i := 5) (x := v9) (v := .long (Int64.ofInt (v9))) rfl rfl (Nat.lt_trans (kx_15 k_t).1 (by decide)) (kx_15 k_t).2 (by decide) rfl rfl e9 rfl ?_
          refine jr.aload_n rfl rfl ?_
          obtain ⟨v10, e10⟩ : ∃ z_, M x 5 = z_ := ⟨_, rfl⟩
          have b10 : (-9223372036854775808) ≤ v10 ∧ v10 ≤ 9223372036854775807 := by rw [← e10]; exact (CI.r hC_M k_x (by decide) 5)
          refine jr.getf (i := 5) (x := v10) (v := .long (Int64.ofInt (v10))) rfl rfl (Nat.lt_trans (kx_15 k_x).1 (by decide)) (kx_15 k_x).2 (by decide) rfl rfl e10 rfl ?_
          refine jr.lcmp_ne rfl rfl rfl (by omega) (by omega) (fun h55 => ?_) (fun h55 => ?_)
          · refine jr.iconst rfl ?_
            exact jr.ireturn rfl rfl rfl (q _ (by omega) (by omega))
          · refine jr.iconst rfl ?_
            refine jr.goto rfl rfl ?_
            exact jr.ireturn rfl rfl rfl (q _ (by omega) (by omega))
theorem c_PacketWall_soughtGathering_x_L2 {A : Nat → Option (Nat × (Nat → Int32))} {Q : Option Value → jm → Prop} {M : jm} (hC_M : CI M) (q : ∀ (r : Int), (-1) ≤ r ∧ r ≤ 7 → (r = gS M 8 0) → Q (some (.int (Int32.ofInt r))) M) : ∀ (nM : Nat) (i : Int), 0 ≤ i ∧ i ≤ 8 → (gS M 8 0 = gS M (8 - i).toNat i) → 8 - i ≤ nM → jr A 1 xm_45 2 [(1, .int (Int32.ofInt (i))), (0, .ref (0))] [] M Q := by
  intro nM
  induction nM using Nat.strongRecOn with
  | ind nM ih =>
    intro i h_i hy0 hm
    refine jr.iload_n rfl rfl ?_
    refine jr.bipush rfl (by decide) ?_
    refine jr.icmp_ge rfl rfl (by omega) (by omega) (fun h5 => ?_) (fun h5 => ?_)
    · refine jr.iconst rfl ?_
      exact jr.ireturn rfl rfl rfl (q _ (by omega) (by rw [hy0, show (8 - i).toNat = 0 from by omega]; rfl))
    · refine jr.aload_n rfl rfl ?_
      refine jr.getf (i := 5) (v := .ref 10) rfl rfl (by decide) rfl (by decide) rfl rfl rfl rfl ?_
      refine jr.iload_n rfl rfl ?_
      have k1 := kxe_40 (a := 10) rfl (i := i) (by omega) (by omega)
      refine jr.aald (c := (xe 10 i)) rfl (by decide) rfl (by decide) (by decide) rfl (by decide) (by omega) (by omega) k1.1 ?_
      obtain ⟨v2, e2⟩ : ∃ z_, M ((xe 10 i)) 0 = z_ := ⟨_, rfl⟩
      have b2 : 0 ≤ v2 ∧ v2 ≤ 1 := by rw [← e2]; exact (CI.r hC_M k1.2 (by decide) 0)
      refine jr.getf (i := 0) (x := v2) (v := .int (Int32.ofInt (v2))) rfl rfl (Nat.lt_trans (kx_15 k1.2).1 (by decide)) (kx_15 k1.2).2 (by decide) rfl rfl e2 rfl ?_
      refine jr.if_eq rfl rfl (by omega) (fun h17 => ?_) (fun h17 => ?_)
      · refine jr.iinc (ls' := [_, _]) rfl rfl (by decide) rfl ?_
        refine jr.goto rfl rfl ?_
        refine jr.pick (ls := [_, _]) [0, 1] rfl rfl ?_
        exact ih (nM - 1) (by omega) (i + 1) (by omega) (by rw [hy0, gS_s (by omega), if_neg (by omega)]) (by omega)
      · have sx17 : (1 : Int) ≤ v2 := by omega
        clear h17
        refine jr.aload_n rfl rfl ?_
        refine jr.getf (i := 5) (v := .ref 10) rfl rfl (by decide) rfl (by decide) rfl rfl rfl rfl ?_
        refine jr.iload_n rfl rfl ?_
        have k3 := kxe_40 (a := 10) rfl (i := i) (by omega) (by omega)
        refine jr.aald (c := (xe 10 i)) rfl (by decide) rfl (by decide) (by decide) rfl (by decide) (by omega) (by omega) k3.1 ?_
        refine jr.aload_n rfl rfl ?_
        refine jr.getf (i := 6) (v := .ref 11) rfl rfl (by decide) rfl (by decide) rfl rfl rfl rfl ?_
        refine jr_v rfl rfl (Or.inl rfl) rfl rfl (Nat.lt_trans (kx_15 k3.2).1 (by decide)) (kx_15 k3.2).2 ⟨rfl, Nat.le_of_ble_eq_true rfl, Nat.le_of_ble_eq_true rfl⟩ rfl (jc.deep (c_Gathering_isNamedLike_x hC_M k3.2 (show kd 11 = 15 from rfl) (fun r4 z4 w4_0 => ?_)) (by decide))
        refine jr.if_eq rfl rfl (by omega) (fun h33 => ?_) (fun h33 => ?_)
        · refine jr.iinc (ls' := [_, _]) rfl rfl (by decide) rfl ?_
          refine jr.goto rfl rfl ?_
          refine jr.pick (ls := [_, _]) [0, 1] rfl rfl ?_
          exact ih (nM - 1) (by omega) (i + 1) (by omega) (by rw [hy0, gS_s (by omega), if_neg (by omega)]) (by omega)
        · have sx33 : (1 : Int) ≤ r4 := by omega
          clear h33
          refine jr.iload_n rfl rfl ?_
          exact jr.ireturn rfl rfl rfl (q _ (by omega) (by rw [hy0, gS_s (by omega), if_pos (by omega)]))
theorem c_PacketWall_soughtGathering_x {A : Nat → Option (Nat × (Nat → Int32))} {Q : Option Value → jm → Prop} {M : jm} (hC_M : CI M) (q : ∀ (r : Int), (-1) ≤ r ∧ r ≤ 7 → (r = gS M 8 0) → Q (some (.int (Int32.ofInt r))) M) : jc A 2 45 [.ref (0)] M Q := by
  refine jc_of (m := xm_45) rfl (Nat.le_of_ble_eq_true rfl) rfl ?_
  refine jr.iconst rfl ?_
  refine jr.istore_n (ls' := [_, _]) rfl (by decide) rfl ?_
  refine jr.pick (ls := [_, _]) [0, 1] rfl rfl ?_
  exact c_PacketWall_soughtGathering_x_L2 hC_M  q 8 0 (by omega) rfl (by omega)
theorem c_PacketWall_freeGathering_x_L2 {A : Nat → Option (Nat × (Nat → Int32))} {Q : Option Value → jm → Prop} {M : jm} (hC_M : CI M) (q : ∀ (r : Int), (-1) ≤ r ∧ r ≤ 7 → (r = gF M 8 0) → Q (some (.int (Int32.ofInt r))) M) : ∀ (nM : Nat) (i : Int), 0 ≤ i ∧ i ≤ 8 → (gF M 8 0 = gF M (8 - i).toNat i) → 8 - i ≤ nM → jr A 0 xm_46 2 [(1, .int (Int32.ofInt (i))), (0, .ref (0))] [] M Q := by
  intro nM
  induction nM using Nat.strongRecOn with
  | ind nM ih =>
    intro i h_i hy0 hm
    refine jr.iload_n rfl rfl ?_
    refine jr.bipush rfl (by decide) ?_
    refine jr.icmp_ge rfl rfl (by omega) (by omega) (fun h5 => ?_) (fun h5 => ?_)
    · refine jr.iconst rfl ?_
      exact jr.ireturn rfl rfl rfl (q _ (by omega) (by rw [hy0, show (8 - i).toNat = 0 from by omega]; rfl))
    · refine jr.aload_n rfl rfl ?_
      refine jr.getf (i := 5) (v := .ref 10) rfl rfl (by decide) rfl (by decide) rfl rfl rfl rfl ?_
      refine jr.iload_n rfl rfl ?_
      have k1 := kxe_40 (a := 10) rfl (i := i) (by omega) (by omega)
      refine jr.aald (c := (xe 10 i)) rfl (by decide) rfl (by decide) (by decide) rfl (by decide) (by omega) (by omega) k1.1 ?_
      obtain ⟨v2, e2⟩ : ∃ z_, M ((xe 10 i)) 0 = z_ := ⟨_, rfl⟩
      have b2 : 0 ≤ v2 ∧ v2 ≤ 1 := by rw [← e2]; exact (CI.r hC_M k1.2 (by decide) 0)
      refine jr.getf (i := 0) (x := v2) (v := .int (Int32.ofInt (v2))) rfl rfl (Nat.lt_trans (kx_15 k1.2).1 (by decide)) (kx_15 k1.2).2 (by decide) rfl rfl e2 rfl ?_
      refine jr.if_ne rfl rfl (by omega) (fun h17 => ?_) (fun h17 => ?_)
      · have sx17 : (1 : Int) ≤ v2 := by omega
        clear h17
        refine jr.iinc (ls' := [_, _]) rfl rfl (by decide) rfl ?_
        refine jr.goto rfl rfl ?_
        refine jr.pick (ls := [_, _]) [0, 1] rfl rfl ?_
        exact ih (nM - 1) (by omega) (i + 1) (by omega) (by rw [hy0, gF_s (by omega), if_neg (by omega)]) (by omega)
      · refine jr.iload_n rfl rfl ?_
        exact jr.ireturn rfl rfl rfl (q _ (by omega) (by rw [hy0, gF_s (by omega), if_pos (by omega)]))
theorem c_PacketWall_freeGathering_x {A : Nat → Option (Nat × (Nat → Int32))} {Q : Option Value → jm → Prop} {M : jm} (hC_M : CI M) (q : ∀ (r : Int), (-1) ≤ r ∧ r ≤ 7 → (r = gF M 8 0) → Q (some (.int (Int32.ofInt r))) M) : jc A 1 46 [.ref (0)] M Q := by
  refine jc_of (m := xm_46) rfl (Nat.le_of_ble_eq_true rfl) rfl ?_
  refine jr.iconst rfl ?_
  refine jr.istore_n (ls' := [_, _]) rfl (by decide) rfl ?_
  refine jr.pick (ls := [_, _]) [0, 1] rfl rfl ?_
  exact c_PacketWall_freeGathering_x_L2 hC_M  q 8 0 (by omega) rfl (by omega)
end
