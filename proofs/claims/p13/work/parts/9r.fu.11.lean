section
theorem c_Flow_layRow_x {A : Nat → Option (Nat × (Nat → Int32))} {Q : Option Value → jm → Prop} {T : jm} {M : jm} (hC_M : CI M) (ht_M : FR W_c_Flow_layRow_x T M) {t : Nat} (k_t : kd t = 1) {y : Int} (h_y : 0 ≤ y ∧ y ≤ 1552) {z : Int} (h_z : 0 ≤ z ∧ z ≤ 2000000000) (p0 : T = M) (q : ∀ (M' : jm), CI M' → FR W_c_Flow_layRow_x T M' → (M' 1 = rwl (T 1) y (rcB T t z) ∧ ∀ (b : Nat) (k : Int), b ≠ 1 → M' b k = T b k) → Q none M') : jc A 3 64 [.ref (t), .ref (1), .int (Int32.ofInt (y)), .int (Int32.ofInt (z))] M Q := by
  refine jc_of (m := xm_64) rfl (Nat.le_of_ble_eq_true rfl) rfl ?_
  refine jr.aload_n rfl rfl ?_
  obtain ⟨v1, e1⟩ : ∃ z_, M t 1 = z_ := ⟨_, rfl⟩
  have b1 : 0 ≤ v1 ∧ v1 ≤ 1 := by rw [← e1]; exact (CI.r hC_M k_t (by decide) 1)
  refine jr.getf (i := 1) (x := v1) (v := .int (Int32.ofInt (v1))) rfl rfl (Nat.lt_trans (kx_1 k_t).1 (by decide)) (kx_1 k_t).2 (by decide) rfl rfl e1 rfl ?_
  refine jr.if_eq rfl rfl (by omega) (fun h4 => ?_) (fun h4 => ?_)
  · refine jr.iconst rfl ?_
    refine jr.aload_n rfl rfl ?_
    have k2 := kf_1_8 k_t
    refine jr.getf (i := 8) (v := .ref (t + 4)) rfl rfl (Nat.lt_trans (kx_1 k_t).1 (by decide)) (kx_1 k_t).2 (by decide) rfl rfl rfl (jval_ref rfl k2.1) ?_
    refine jr.iconst rfl ?_
    obtain ⟨v3, e3⟩ : ∃ z_, M ((t + 4)) 0 = z_ := ⟨_, rfl⟩
    have b3 : 0 ≤ v3 ∧ v3 ≤ 1 := by rw [← e3]; exact (CI.r hC_M k2.2 (by decide) 0)
    refine jr.zald (i := 0) (x := v3) rfl (Nat.lt_trans (kx_4 k2.2).1 (by decide)) (kx_4 k2.2).2 (by decide) (by omega) (by omega) e3 ?_
    refine jr.if_eq rfl rfl (by omega) (fun h19 => ?_) (fun h19 => ?_)
    · refine jr.iconst rfl ?_
      refine jr.iadd rfl ?_
      refine jr.aload_n rfl rfl ?_
      have k4 := kf_1_8 k_t
      refine jr.getf (i := 8) (v := .ref (t + 4)) rfl rfl (Nat.lt_trans (kx_1 k_t).1 (by decide)) (kx_1 k_t).2 (by decide) rfl rfl rfl (jval_ref rfl k4.1) ?_
      refine jr.iconst rfl ?_
      obtain ⟨v5, e5⟩ : ∃ z_, M ((t + 4)) 1 = z_ := ⟨_, rfl⟩
      have b5 : 0 ≤ v5 ∧ v5 ≤ 1 := by rw [← e5]; exact (CI.r hC_M k4.2 (by decide) 1)
      refine jr.zald (i := 1) (x := v5) rfl (Nat.lt_trans (kx_4 k4.2).1 (by decide)) (kx_4 k4.2).2 (by decide) (by omega) (by omega) e5 ?_
      refine jr.if_eq rfl rfl (by omega) (fun h35 => ?_) (fun h35 => ?_)
      · refine jr.iconst rfl ?_
        refine jr.iadd rfl ?_
        refine jr.aload_n rfl rfl ?_
        obtain ⟨v6, e6⟩ : ∃ z_, M t 12 = z_ := ⟨_, rfl⟩
        have b6 : 0 ≤ v6 ∧ v6 ≤ 1 := by rw [← e6]; exact (CI.r hC_M k_t (by decide) 12)
        refine jr.getf (i := 12) (x := v6) (v := .int (Int32.ofInt (v6))) rfl rfl (Nat.lt_trans (kx_1 k_t).1 (by decide)) (kx_1 k_t).2 (by decide) rfl rfl e6 rfl ?_
        refine jr.if_eq rfl rfl (by omega) (fun h49 => ?_) (fun h49 => ?_)
        · refine jr.iconst rfl ?_
          refine jr.iadd rfl ?_
          refine jr.istore (ls' := [_, _, _, _, _]) rfl (by decide) rfl ?_
          refine jr.pick (ls := [_, _, _, _, _]) [3, 4, 0, 1, 2] rfl rfl ?_
          exact c_Flow_layRow_x_L62 k_t q 0 M (((0 + 0) + 0) + 0) hC_M ht_M (by omega) (by omega) (by omega) (by unfold flgF; rw [p0]; (repeat' split) <;> omega) p0.symm (by omega)
        · have sx49 : (1 : Int) ≤ v6 := by omega
          clear h49
          refine jr.sipush rfl (by decide) ?_
          refine jr.goto rfl rfl ?_
          refine jr.iadd rfl ?_
          refine jr.istore (ls' := [_, _, _, _, _]) rfl (by decide) rfl ?_
          refine jr.pick (ls := [_, _, _, _, _]) [3, 4, 0, 1, 2] rfl rfl ?_
          exact c_Flow_layRow_x_L62 k_t q 0 M (((0 + 0) + 0) + 128) hC_M ht_M (by omega) (by omega) (by omega) (by unfold flgF; rw [p0]; (repeat' split) <;> omega) p0.symm (by omega)
      · have sx35 : (1 : Int) ≤ v5 := by omega
        clear h35
        refine jr.bipush rfl (by decide) ?_
        refine jr.goto rfl rfl ?_
        refine jr.iadd rfl ?_
        refine jr.aload_n rfl rfl ?_
        obtain ⟨v7, e7⟩ : ∃ z_, M t 12 = z_ := ⟨_, rfl⟩
        have b7 : 0 ≤ v7 ∧ v7 ≤ 1 := by rw [← e7]; exact (CI.r hC_M k_t (by decide) 12)
        refine jr.getf (i := 12) (x := v7) (v := .int (Int32.ofInt (v7))) rfl rfl (Nat.lt_trans (kx_1 k_t).1 (by decide)) (kx_1 k_t).2 (by decide) rfl rfl e7 rfl ?_
        refine jr.if_eq rfl rfl (by omega) (fun h49 => ?_) (fun h49 => ?_)
        · refine jr.iconst rfl ?_
          refine jr.iadd rfl ?_
          refine jr.istore (ls' := [_, _, _, _, _]) rfl (by decide) rfl ?_
          refine jr.pick (ls := [_, _, _, _, _]) [3, 4, 0, 1, 2] rfl rfl ?_
          exact c_Flow_layRow_x_L62 k_t q 0 M (((0 + 0) + 64) + 0) hC_M ht_M (by omega) (by omega) (by omega) (by unfold flgF; rw [p0]; (repeat' split) <;> omega) p0.symm (by omega)
        · have sx49 : (1 : Int) ≤ v7 := by omega
          clear h49
          refine jr.sipush rfl (by decide) ?_
          refine jr.goto rfl rfl ?_
          refine jr.iadd rfl ?_
          refine jr.istore (ls' := [_, _, _, _, _]) rfl (by decide) rfl ?_
          refine jr.pick (ls := [_, _, _, _, _]) [3, 4, 0, 1, 2] rfl rfl ?_
          exact c_Flow_layRow_x_L62 k_t q 0 M (((0 + 0) + 64) + 128) hC_M ht_M (by omega) (by omega) (by omega) (by unfold flgF; rw [p0]; (repeat' split) <;> omega) p0.symm (by omega)
    · have sx19 : (1 : Int) ≤ v3 := by omega
      clear h19
      refine jr.bipush rfl (by decide) ?_
      refine jr.goto rfl rfl ?_
      refine jr.iadd rfl ?_
      refine jr.aload_n rfl rfl ?_
      have k8 := kf_1_8 k_t
      refine jr.getf (i := 8) (v := .ref (t + 4)) rfl rfl (Nat.lt_trans (kx_1 k_t).1 (by decide)) (kx_1 k_t).2 (by decide) rfl rfl rfl (jval_ref rfl k8.1) ?_
      refine jr.iconst rfl ?_
      obtain ⟨v9, e9⟩ : ∃ z_, M ((t + 4)) 1 = z_ := ⟨_, rfl⟩
      have b9 : 0 ≤ v9 ∧ v9 ≤ 1 := by rw [← e9]; exact (CI.r hC_M k8.2 (by decide) 1)
      refine jr.zald (i := 1) (x := v9) rfl (Nat.lt_trans (kx_4 k8.2).1 (by decide)) (kx_4 k8.2).2 (by decide) (by omega) (by omega) e9 ?_
      refine jr.if_eq rfl rfl (by omega) (fun h35 => ?_) (fun h35 => ?_)
      · refine jr.iconst rfl ?_
        refine jr.iadd rfl ?_
        refine jr.aload_n rfl rfl ?_
        obtain ⟨v10, e10⟩ : ∃ z_, M t 12 = z_ := ⟨_, rfl⟩
        have b10 : 0 ≤ v10 ∧ v10 ≤ 1 := by rw [← e10]; exact (CI.r hC_M k_t (by decide) 12)
        refine jr.getf (i := 12) (x := v10) (v := .int (Int32.ofInt (v10))) rfl rfl (Nat.lt_trans (kx_1 k_t).1 (by decide)) (kx_1 k_t).2 (by decide) rfl rfl e10 rfl ?_
        refine jr.if_eq rfl rfl (by omega) (fun h49 => ?_) (fun h49 => ?_)
        · refine jr.iconst rfl ?_
          refine jr.iadd rfl ?_
          refine jr.istore (ls' := [_, _, _, _, _]) rfl (by decide) rfl ?_
          refine jr.pick (ls := [_, _, _, _, _]) [3, 4, 0, 1, 2] rfl rfl ?_
          exact c_Flow_layRow_x_L62 k_t q 0 M (((0 + 32) + 0) + 0) hC_M ht_M (by omega) (by omega) (by omega) (by unfold flgF; rw [p0]; (repeat' split) <;> omega) p0.symm (by omega)
        · have sx49 : (1 : Int) ≤ v10 := by omega
          clear h49
          refine jr.sipush rfl (by decide) ?_
          refine jr.goto rfl rfl ?_
          refine jr.iadd rfl ?_
          refine jr.istore (ls' := [_, _, _, _, _]) rfl (by decide) rfl ?_
          refine jr.pick (ls := [_, _, _, _, _]) [3, 4, 0, 1, 2] rfl rfl ?_
          exact c_Flow_layRow_x_L62 k_t q 0 M (((0 + 32) + 0) + 128) hC_M ht_M (by omega) (by omega) (by omega) (by unfold flgF; rw [p0]; (repeat' split) <;> omega) p0.symm (by omega)
      · have sx35 : (1 : Int) ≤ v9 := by omega
        clear h35
        refine jr.bipush rfl (by decide) ?_
        refine jr.goto rfl rfl ?_
        refine jr.iadd rfl ?_
        refine jr.aload_n rfl rfl ?_
        obtain ⟨v11, e11⟩ : ∃ z_, M t 12 = z_ := ⟨_, rfl⟩
        have b11 : 0 ≤ v11 ∧ v11 ≤ 1 := by rw [← e11]; exact (CI.r hC_M k_t (by decide) 12)
        refine jr.getf (i := 12) (x := v11) (v := .int (Int32.ofInt (v11))) rfl rfl (Nat.lt_trans (kx_1 k_t).1 (by decide)) (kx_1 k_t).2 (by decide) rfl rfl e11 rfl ?_
        refine jr.if_eq rfl rfl (by omega) (fun h49 => ?_) (fun h49 => ?_)
        · refine jr.iconst rfl ?_
          refine jr.iadd rfl ?_
          refine jr.istore (ls' := [_, _, _, _, _]) rfl (by decide) rfl ?_
          refine jr.pick (ls := [_, _, _, _, _]) [3, 4, 0, 1, 2] rfl rfl ?_
          exact c_Flow_layRow_x_L62 k_t q 0 M (((0 + 32) + 64) + 0) hC_M ht_M (by omega) (by omega) (by omega) (by unfold flgF; rw [p0]; (repeat' split) <;> omega) p0.symm (by omega)
        · have sx49 : (1 : Int) ≤ v11 := by omega
          clear h49
          refine jr.sipush rfl (by decide) ?_
          refine jr.goto rfl rfl ?_
          refine jr.iadd rfl ?_
          refine jr.istore (ls' := [_, _, _, _, _]) rfl (by decide) rfl ?_
          refine jr.pick (ls := [_, _, _, _, _]) [3, 4, 0, 1, 2] rfl rfl ?_
          exact c_Flow_layRow_x_L62 k_t q 0 M (((0 + 32) + 64) + 128) hC_M ht_M (by omega) (by omega) (by omega) (by unfold flgF; rw [p0]; (repeat' split) <;> omega) p0.symm (by omega)
  · have sx4 : (1 : Int) ≤ v1 := by omega
    clear h4
    refine jr.bipush rfl (by decide) ?_
    refine jr.goto rfl rfl ?_
    refine jr.aload_n rfl rfl ?_
    have k12 := kf_1_8 k_t
    refine jr.getf (i := 8) (v := .ref (t + 4)) rfl rfl (Nat.lt_trans (kx_1 k_t).1 (by decide)) (kx_1 k_t).2 (by decide) rfl rfl rfl (jval_ref rfl k12.1) ?_
    refine jr.iconst rfl ?_
    obtain ⟨v13, e13⟩ : ∃ z_, M ((t + 4)) 0 = z_ := ⟨_, rfl⟩
    have b13 : 0 ≤ v13 ∧ v13 ≤ 1 := by rw [← e13]; exact (CI.r hC_M k12.2 (by decide) 0)
    refine jr.zald (i := 0) (x := v13) rfl (Nat.lt_trans (kx_4 k12.2).1 (by decide)) (kx_4 k12.2).2 (by decide) (by omega) (by omega) e13 ?_
    refine jr.if_eq rfl rfl (by omega) (fun h19 => ?_) (fun h19 => ?_)
    · refine jr.iconst rfl ?_
      refine jr.iadd rfl ?_
      refine jr.aload_n rfl rfl ?_
      have k14 := kf_1_8 k_t
      refine jr.getf (i := 8) (v := .ref (t + 4)) rfl rfl (Nat.lt_trans (kx_1 k_t).1 (by decide)) (kx_1 k_t).2 (by decide) rfl rfl rfl (jval_ref rfl k14.1) ?_
      refine jr.iconst rfl ?_
      obtain ⟨v15, e15⟩ : ∃ z_, M ((t + 4)) 1 = z_ := ⟨_, rfl⟩
      have b15 : 0 ≤ v15 ∧ v15 ≤ 1 := by rw [← e15]; exact (CI.r hC_M k14.2 (by decide) 1)
      refine jr.zald (i := 1) (x := v15) rfl (Nat.lt_trans (kx_4 k14.2).1 (by decide)) (kx_4 k14.2).2 (by decide) (by omega) (by omega) e15 ?_
      refine jr.if_eq rfl rfl (by omega) (fun h35 => ?_) (fun h35 => ?_)
      · refine jr.iconst rfl ?_
        refine jr.iadd rfl ?_
        refine jr.aload_n rfl rfl ?_
        obtain ⟨v16, e16⟩ : ∃ z_, M t 12 = z_ := ⟨_, rfl⟩
        have b16 : 0 ≤ v16 ∧ v16 ≤ 1 := by rw [← e16]; exact (CI.r hC_M k_t (by decide) 12)
        refine jr.getf (i := 12) (x := v16) (v := .int (Int32.ofInt (v16))) rfl rfl (Nat.lt_trans (kx_1 k_t).1 (by decide)) (kx_1 k_t).2 (by decide) rfl rfl e16 rfl ?_
        refine jr.if_eq rfl rfl (by omega) (fun h49 => ?_) (fun h49 => ?_)
        · refine jr.iconst rfl ?_
          refine jr.iadd rfl ?_
          refine jr.istore (ls' := [_, _, _, _, _]) rfl (by decide) rfl ?_
          refine jr.pick (ls := [_, _, _, _, _]) [3, 4, 0, 1, 2] rfl rfl ?_
          exact c_Flow_layRow_x_L62 k_t q 0 M (((16 + 0) + 0) + 0) hC_M ht_M (by omega) (by omega) (by omega) (by unfold flgF; rw [p0]; (repeat' split) <;> omega) p0.symm (by omega)
        · have sx49 : (1 : Int) ≤ v16 := by omega
          clear h49
          refine jr.sipush rfl (by decide) ?_
          refine jr.goto rfl rfl ?_
          refine jr.iadd rfl ?_
          refine jr.istore (ls' := [_, _, _, _, _]) rfl (by decide) rfl ?_
          refine jr.pick (ls := [_, _, _, _, _]) [3, 4, 0, 1, 2] rfl rfl ?_
          exact c_Flow_layRow_x_L62 k_t q 0 M (((16 + 0) + 0) + 128) hC_M ht_M (by omega) (by omega) (by omega) (by unfold flgF; rw [p0]; (repeat' split) <;> omega) p0.symm (by omega)
      · have sx35 : (1 : Int) ≤ v15 := by omega
        clear h35
        refine jr.bipush rfl (by decide) ?_
        refine jr.goto rfl rfl ?_
        refine jr.iadd rfl ?_
        refine jr.aload_n rfl rfl ?_
        obtain ⟨v17, e17⟩ : ∃ z_, M t 12 = z_ := ⟨_, rfl⟩
        have b17 : 0 ≤ v17 ∧ v17 ≤ 1 := by rw [← e17]; exact (CI.r hC_M k_t (by decide) 12)
        refine jr.getf (i := 12) (x := v17) (v := .int (Int32.ofInt (v17))) rfl rfl (Nat.lt_trans (kx_1 k_t).1 (by decide)) (kx_1 k_t).2 (by decide) rfl rfl e17 rfl ?_
        refine jr.if_eq rfl rfl (by omega) (fun h49 => ?_) (fun h49 => ?_)
        · refine jr.iconst rfl ?_
          refine jr.iadd rfl ?_
          refine jr.istore (ls' := [_, _, _, _, _]) rfl (by decide) rfl ?_
          refine jr.pick (ls := [_, _, _, _, _]) [3, 4, 0, 1, 2] rfl rfl ?_
          exact c_Flow_layRow_x_L62 k_t q 0 M (((16 + 0) + 64) + 0) hC_M ht_M (by omega) (by omega) (by omega) (by unfold flgF; rw [p0]; (repeat' split) <;> omega) p0.symm (by omega)
        · have sx49 : (1 : Int) ≤ v17 := by omega
          clear h49
          refine jr.sipush rfl (by decide) ?_
          refine jr.goto rfl rfl ?_
          refine jr.iadd rfl ?_
          refine jr.istore (ls' := [_, _, _, _, _]) rfl (by decide) rfl ?_
          refine jr.pick (ls := [_, _, _, _, _]) [3, 4, 0, 1, 2] rfl rfl ?_
          exact c_Flow_layRow_x_L62 k_t q 0 M (((16 + 0) + 64) + 128) hC_M ht_M (by omega) (by omega) (by omega) (by unfold flgF; rw [p0]; (repeat' split) <;> omega) p0.symm (by omega)
    · have sx19 : (1 : Int) ≤ v13 := by omega
      clear h19
      refine jr.bipush rfl (by decide) ?_
      refine jr.goto rfl rfl ?_
      refine jr.iadd rfl ?_
      refine jr.aload_n rfl rfl ?_
      have k18 := kf_1_8 k_t
      refine jr.getf (i := 8) (v := .ref (t + 4)) rfl rfl (Nat.lt_trans (kx_1 k_t).1 (by decide)) (kx_1 k_t).2 (by decide) rfl rfl rfl (jval_ref rfl k18.1) ?_
      refine jr.iconst rfl ?_
      obtain ⟨v19, e19⟩ : ∃ z_, M ((t + 4)) 1 = z_ := ⟨_, rfl⟩
      have b19 : 0 ≤ v19 ∧ v19 ≤ 1 := by rw [← e19]; exact (CI.r hC_M k18.2 (by decide) 1)
      refine jr.zald (i := 1) (x := v19) rfl (Nat.lt_trans (kx_4 k18.2).1 (by decide)) (kx_4 k18.2).2 (by decide) (by omega) (by omega) e19 ?_
      refine jr.if_eq rfl rfl (by omega) (fun h35 => ?_) (fun h35 => ?_)
      · refine jr.iconst rfl ?_
        refine jr.iadd rfl ?_
        refine jr.aload_n rfl rfl ?_
        obtain ⟨v20, e20⟩ : ∃ z_, M t 12 = z_ := ⟨_, rfl⟩
        have b20 : 0 ≤ v20 ∧ v20 ≤ 1 := by rw [← e20]; exact (CI.r hC_M k_t (by decide) 12)
        refine jr.getf (i := 12) (x := v20) (v := .int (Int32.ofInt (v20))) rfl rfl (Nat.lt_trans (kx_1 k_t).1 (by decide)) (kx_1 k_t).2 (by decide) rfl rfl e20 rfl ?_
        refine jr.if_eq rfl rfl (by omega) (fun h49 => ?_) (fun h49 => ?_)
        · refine jr.iconst rfl ?_
          refine jr.iadd rfl ?_
          refine jr.istore (ls' := [_, _, _, _, _]) rfl (by decide) rfl ?_
          refine jr.pick (ls := [_, _, _, _, _]) [3, 4, 0, 1, 2] rfl rfl ?_
          exact c_Flow_layRow_x_L62 k_t q 0 M (((16 + 32) + 0) + 0) hC_M ht_M (by omega) (by omega) (by omega) (by unfold flgF; rw [p0]; (repeat' split) <;> omega) p0.symm (by omega)
        · have sx49 : (1 : Int) ≤ v20 := by omega
          clear h49
          refine jr.sipush rfl (by decide) ?_
          refine jr.goto rfl rfl ?_
          refine jr.iadd rfl ?_
          refine jr.istore (ls' := [_, _, _, _, _]) rfl (by decide) rfl ?_
          refine jr.pick (ls := [_, _, _, _, _]) [3, 4, 0, 1, 2] rfl rfl ?_
          exact c_Flow_layRow_x_L62 k_t q 0 M (((16 + 32) + 0) + 128) hC_M ht_M (by omega) (by omega) (by omega) (by unfold flgF; rw [p0]; (repeat' split) <;> omega) p0.symm (by omega)
      · have sx35 : (1 : Int) ≤ v19 := by omega
        clear h35
        refine jr.bipush rfl (by decide) ?_
        refine jr.goto rfl rfl ?_
        refine jr.iadd rfl ?_
        refine jr.aload_n rfl rfl ?_
        obtain ⟨v21, e21⟩ : ∃ z_, M t 12 = z_ := ⟨_, rfl⟩
        have b21 : 0 ≤ v21 ∧ v21 ≤ 1 := by rw [← e21]; exact (CI.r hC_M k_t (by decide) 12)
        refine jr.getf (i := 12) (x := v21) (v := .int (Int32.ofInt (v21))) rfl rfl (Nat.lt_trans (kx_1 k_t).1 (by decide)) (kx_1 k_t).2 (by decide) rfl rfl e21 rfl ?_
        refine jr.if_eq rfl rfl (by omega) (fun h49 => ?_) (fun h49 => ?_)
        · refine jr.iconst rfl ?_
          refine jr.iadd rfl ?_
          refine jr.istore (ls' := [_, _, _, _, _]) rfl (by decide) rfl ?_
          refine jr.pick (ls := [_, _, _, _, _]) [3, 4, 0, 1, 2] rfl rfl ?_
          exact c_Flow_layRow_x_L62 k_t q 0 M (((16 + 32) + 64) + 0) hC_M ht_M (by omega) (by omega) (by omega) (by unfold flgF; rw [p0]; (repeat' split) <;> omega) p0.symm (by omega)
        · have sx49 : (1 : Int) ≤ v21 := by omega
          clear h49
          refine jr.sipush rfl (by decide) ?_
          refine jr.goto rfl rfl ?_
          refine jr.iadd rfl ?_
          refine jr.istore (ls' := [_, _, _, _, _]) rfl (by decide) rfl ?_
          refine jr.pick (ls := [_, _, _, _, _]) [3, 4, 0, 1, 2] rfl rfl ?_
          exact c_Flow_layRow_x_L62 k_t q 0 M (((16 + 32) + 64) + 128) hC_M ht_M (by omega) (by omega) (by omega) (by unfold flgF; rw [p0]; (repeat' split) <;> omega) p0.symm (by omega)
end
