section
theorem c_Headers_fullSize_x {A : Nat → Option (Nat × (Nat → Int32))} {Q : Option Value → jm → Prop} {f : Int → Int} {M : jm} (hC_M : CI M) {t : Nat} (k_t : kd t = 18) {x : Int} (h_x : 0 ≤ x ∧ x ≤ 11) {y : Int} (h_y : 0 ≤ y ∧ y ≤ 400) {S : Int} (g_S : M t 7 = S) {N : Int} (g_N : M ((S.toNat)) 1 = N) (p0 : BY8 M (S.toNat + 1) f) (q : ∀ (r : Int), (-401) ≤ r ∧ r ≤ 2048 → (r = hsZ f N x y) → Q (some (.int (Int32.ofInt r))) M) : jc A 2 130 [.ref (t), .int (Int32.ofInt (x)), .int (Int32.ofInt (y))] M Q := by
  refine jc_of (m := xm_130) rfl (Nat.le_of_ble_eq_true rfl) rfl ?_
  have k_S : kd S.toNat = 33 := (congrArg (fun z : Int => kd z.toNat) g_S).symm.trans (CI.x hC_M k_t 7 rfl (by decide))
  have b_N : (-1) ≤ N ∧ N ≤ 400 := by rw [← g_N]; exact (CI.r hC_M k_S (by decide) 1)
  have k_by : kd (S.toNat + 1) = 34 := (kf_33_0 k_S).2
  refine jr.iload_n rfl rfl ?_
  rcases (show x = 2 ∨ x = 3 ∨ x = 4 ∨ x = 5 ∨ x = 6 ∨ x = 7 ∨ x = 8 ∨ x = 9 ∨ x = 10 ∨ x = 11 ∨ (x ≠ 2 ∧ x ≠ 3 ∧ x ≠ 4 ∧ x ≠ 5 ∧ x ≠ 6 ∧ x ≠ 7 ∧ x ≠ 8 ∧ x ≠ 9 ∧ x ≠ 10 ∧ x ≠ 11) by omega) with h1 | h1 | h1 | h1 | h1 | h1 | h1 | h1 | h1 | h1 | h1
  · refine jr.tsw_k 2 rfl h1 rfl ?_
    refine jr.iconst rfl ?_
    refine jr.aload_n rfl rfl ?_
    refine jr.getf (i := 7) (x := S) (v := .ref (S.toNat)) rfl rfl (Nat.lt_trans (kx_18 k_t).1 (by decide)) (kx_18 k_t).2 (by decide) rfl rfl g_S (jval_mut rfl (kn_18_7 k_t)) ?_
    refine jr.iload_n rfl rfl ?_
    refine jr_v rfl rfl (Or.inl rfl) rfl rfl (Nat.lt_trans (kx_33 k_S).1 (by decide)) (kx_33 k_S).2 ⟨rfl, Nat.le_of_ble_eq_true rfl, Nat.le_of_ble_eq_true rfl⟩ rfl (jc.deep (c_Packet_byteAt_h hC_M k_S (by omega) g_N p0 (fun r2 z2 w2_0 => ?_)) (by decide))
    refine jr.bipush rfl (by decide) ?_
    refine jr.iand rfl ?_
    have b3 : j_and r2 15 = r2 % 16 := j_and_m 4 (by decide) _
    generalize j_and r2 15 = v3 at b3 ⊢
    refine jr.imul rfl ?_
    exact jr.ireturn rfl rfl rfl (q _ (by omega) (by unfold hsZ; (repeat' split) <;> omega))
  · refine jr.tsw_k 3 rfl h1 rfl ?_
    refine jr.gst (v := .ref 1000001) rfl rfl ?_
    refine jr.iload_n rfl rfl ?_
    obtain ⟨v4, e4⟩ : ∃ z_, xcv_1 x = z_ := ⟨_, rfl⟩
    have b4 : 1 ≤ v4 ∧ v4 ≤ 24 := by rw [← e4]; exact xcr_1 (by omega) (by omega)
    refine jr.ials (i := x) v4 rfl (by decide) rfl (by decide) (by omega) (by omega) (by rw [← e4]; exact (Int32.ofInt_toInt _).symm) ?_
    have hl1 := hls_c (k := x) (by omega) (by omega)
    exact jr.ireturn rfl rfl rfl (q _ (by omega) (by unfold hsZ; (repeat' split) <;> omega))
  · refine jr.tsw_k 4 rfl h1 rfl ?_
    refine jr.bipush rfl (by decide) ?_
    refine jr.aload_n rfl rfl ?_
    refine jr.getf (i := 7) (x := S) (v := .ref (S.toNat)) rfl rfl (Nat.lt_trans (kx_18 k_t).1 (by decide)) (kx_18 k_t).2 (by decide) rfl rfl g_S (jval_mut rfl (kn_18_7 k_t)) ?_
    refine jr.iload_n rfl rfl ?_
    refine jr.iconst rfl ?_
    refine jr.iadd rfl ?_
    refine jr_v rfl rfl (Or.inl rfl) rfl rfl (Nat.lt_trans (kx_33 k_S).1 (by decide)) (kx_33 k_S).2 ⟨rfl, Nat.le_of_ble_eq_true rfl, Nat.le_of_ble_eq_true rfl⟩ rfl (jc.deep (c_Packet_byteAt_h hC_M k_S (by omega) g_N p0 (fun r6 z6 w6_0 => ?_)) (by decide))
    refine jr.imul rfl ?_
    refine jr.bipush rfl (by decide) ?_
    refine jr.iadd rfl ?_
    exact jr.ireturn rfl rfl rfl (q _ (by omega) (by unfold hsZ; (repeat' split) <;> omega))
  · refine jr.tsw_k 5 rfl h1 rfl ?_
    refine jr.bipush rfl (by decide) ?_
    refine jr.aload_n rfl rfl ?_
    refine jr.getf (i := 7) (x := S) (v := .ref (S.toNat)) rfl rfl (Nat.lt_trans (kx_18 k_t).1 (by decide)) (kx_18 k_t).2 (by decide) rfl rfl g_S (jval_mut rfl (kn_18_7 k_t)) ?_
    refine jr.iload_n rfl rfl ?_
    refine jr.iconst rfl ?_
    refine jr.iadd rfl ?_
    refine jr_v rfl rfl (Or.inl rfl) rfl rfl (Nat.lt_trans (kx_33 k_S).1 (by decide)) (kx_33 k_S).2 ⟨rfl, Nat.le_of_ble_eq_true rfl, Nat.le_of_ble_eq_true rfl⟩ rfl (jc.deep (c_Packet_byteAt_h hC_M k_S (by omega) g_N p0 (fun r8 z8 w8_0 => ?_)) (by decide))
    refine jr.imul rfl ?_
    refine jr.bipush rfl (by decide) ?_
    refine jr.iadd rfl ?_
    exact jr.ireturn rfl rfl rfl (q _ (by omega) (by unfold hsZ; (repeat' split) <;> omega))
  · refine jr.tsw_k 6 rfl h1 rfl ?_
    refine jr.gst (v := .ref 1000001) rfl rfl ?_
    refine jr.iload_n rfl rfl ?_
    obtain ⟨v9, e9⟩ : ∃ z_, xcv_1 x = z_ := ⟨_, rfl⟩
    have b9 : 1 ≤ v9 ∧ v9 ≤ 24 := by rw [← e9]; exact xcr_1 (by omega) (by omega)
    refine jr.ials (i := x) v9 rfl (by decide) rfl (by decide) (by omega) (by omega) (by rw [← e9]; exact (Int32.ofInt_toInt _).symm) ?_
    have hl1 := hls_c (k := x) (by omega) (by omega)
    exact jr.ireturn rfl rfl rfl (q _ (by omega) (by unfold hsZ; (repeat' split) <;> omega))
  · refine jr.tsw_k 7 rfl h1 rfl ?_
    refine jr.gst (v := .ref 1000001) rfl rfl ?_
    refine jr.iload_n rfl rfl ?_
    obtain ⟨v10, e10⟩ : ∃ z_, xcv_1 x = z_ := ⟨_, rfl⟩
    have b10 : 1 ≤ v10 ∧ v10 ≤ 24 := by rw [← e10]; exact xcr_1 (by omega) (by omega)
    refine jr.ials (i := x) v10 rfl (by decide) rfl (by decide) (by omega) (by omega) (by rw [← e10]; exact (Int32.ofInt_toInt _).symm) ?_
    have hl1 := hls_c (k := x) (by omega) (by omega)
    exact jr.ireturn rfl rfl rfl (q _ (by omega) (by unfold hsZ; (repeat' split) <;> omega))
  · refine jr.tsw_k 8 rfl h1 rfl ?_
    refine jr.iconst rfl ?_
    refine jr.aload_n rfl rfl ?_
    refine jr.getf (i := 7) (x := S) (v := .ref (S.toNat)) rfl rfl (Nat.lt_trans (kx_18 k_t).1 (by decide)) (kx_18 k_t).2 (by decide) rfl rfl g_S (jval_mut rfl (kn_18_7 k_t)) ?_
    refine jr.iload_n rfl rfl ?_
    refine jr.bipush rfl (by decide) ?_
    refine jr.iadd rfl ?_
    refine jr_v rfl rfl (Or.inl rfl) rfl rfl (Nat.lt_trans (kx_33 k_S).1 (by decide)) (kx_33 k_S).2 ⟨rfl, Nat.le_of_ble_eq_true rfl, Nat.le_of_ble_eq_true rfl⟩ rfl (jc.deep (c_Packet_byteAt_h hC_M k_S (by omega) g_N p0 (fun r12 z12 w12_0 => ?_)) (by decide))
    refine jr.iconst rfl ?_
    refine jr.ishr rfl ?_
    have b13 : j_shr r12 4 = r12 / 16 := j_shr_ex 4 (by decide) (by omega) (by omega)
    generalize j_shr r12 4 = v13 at b13 ⊢
    refine jr.imul rfl ?_
    exact jr.ireturn rfl rfl rfl (q _ (by omega) (by unfold hsZ; (repeat' split) <;> omega))
  · refine jr.tsw_k 9 rfl h1 rfl ?_
    refine jr.gst (v := .ref 1000001) rfl rfl ?_
    refine jr.iload_n rfl rfl ?_
    obtain ⟨v14, e14⟩ : ∃ z_, xcv_1 x = z_ := ⟨_, rfl⟩
    have b14 : 1 ≤ v14 ∧ v14 ≤ 24 := by rw [← e14]; exact xcr_1 (by omega) (by omega)
    refine jr.ials (i := x) v14 rfl (by decide) rfl (by decide) (by omega) (by omega) (by rw [← e14]; exact (Int32.ofInt_toInt _).symm) ?_
    have hl1 := hls_c (k := x) (by omega) (by omega)
    exact jr.ireturn rfl rfl rfl (q _ (by omega) (by unfold hsZ; (repeat' split) <;> omega))
  · refine jr.tsw_k 10 rfl h1 rfl ?_
    refine jr.gst (v := .ref 1000001) rfl rfl ?_
    refine jr.iload_n rfl rfl ?_
    obtain ⟨v15, e15⟩ : ∃ z_, xcv_1 x = z_ := ⟨_, rfl⟩
    have b15 : 1 ≤ v15 ∧ v15 ≤ 24 := by rw [← e15]; exact xcr_1 (by omega) (by omega)
    refine jr.ials (i := x) v15 rfl (by decide) rfl (by decide) (by omega) (by omega) (by rw [← e15]; exact (Int32.ofInt_toInt _).symm) ?_
    have hl1 := hls_c (k := x) (by omega) (by omega)
    exact jr.ireturn rfl rfl rfl (q _ (by omega) (by unfold hsZ; (repeat' split) <;> omega))
  · refine jr.tsw_k 11 rfl h1 rfl ?_
    refine jr.aload_n rfl rfl ?_
    refine jr.getf (i := 7) (x := S) (v := .ref (S.toNat)) rfl rfl (Nat.lt_trans (kx_18 k_t).1 (by decide)) (kx_18 k_t).2 (by decide) rfl rfl g_S (jval_mut rfl (kn_18_7 k_t)) ?_
    refine jr.getf (i := 1) (x := N) (v := .int (Int32.ofInt (N))) rfl rfl (Nat.lt_trans (kx_33 k_S).1 (by decide)) (kx_33 k_S).2 (by decide) rfl rfl g_N rfl ?_
    refine jr.iload_n rfl rfl ?_
    refine jr.isub rfl ?_
    exact jr.ireturn rfl rfl rfl (q _ (by omega) (by unfold hsZ; (repeat' split) <;> omega))
  · refine jr.tsw_d rfl (by omega) (by omega) rfl ?_
    refine jr.gst (v := .ref 1000001) rfl rfl ?_
    refine jr.iload_n rfl rfl ?_
    obtain ⟨v17, e17⟩ : ∃ z_, xcv_1 x = z_ := ⟨_, rfl⟩
    have b17 : 1 ≤ v17 ∧ v17 ≤ 24 := by rw [← e17]; exact xcr_1 (by omega) (by omega)
    refine jr.ials (i := x) v17 rfl (by decide) rfl (by decide) (by omega) (by omega) (by rw [← e17]; exact (Int32.ofInt_toInt _).symm) ?_
    have hl1 := hls_c (k := x) (by omega) (by omega)
    exact jr.ireturn rfl rfl rfl (q _ (by omega) (by unfold hsZ; (repeat' split) <;> omega))
noncomputable def bkf (g : Int → Int) (c : Int) : Int := if 1 ≤ c then g (c - 1) else -1
noncomputable def hsF (f : Int → Int) (n c bk k a : Int) : Int := if 12 ≤ c then 6 else if (k = 4 ∧ bk ≠ 3) ∨ ((k = 6 ∨ k = 5) ∧ bk ≠ 3 ∧ bk ≠ 4 ∧ bk ≠ 5) then 3 else if (k = 2 ∨ k = 3) ∧ n < a + 1 then 1 else if (k = 2 ∧ hb f n a / 16 ≠ 4) ∨ (k = 3 ∧ hb f n a / 16 ≠ 6) then 3 else if n < a + hls k then 1 else if (k = 2 ∨ k = 8) ∧ hsZ f n k a < 20 then 4 else if n < a + hsZ f n k a then 1 else if (k = 2 ∧ tw f (a + 2) ≠ n - a) ∨ (k = 3 ∧ tw f (a + 2) ≠ n - a - 24) ∨ (k = 9 ∧ tw f (a + 4) ≠ n - a) then 5 else 0
noncomputable def hsW (f : Int → Int) (n c bk k a : Int) : Int := if 12 ≤ c then a else if (k = 4 ∧ bk ≠ 3) ∨ ((k = 6 ∨ k = 5) ∧ bk ≠ 3 ∧ bk ≠ 4 ∧ bk ≠ 5) then a else if (k = 2 ∨ k = 3) ∧ n < a + 1 then n else if (k = 2 ∧ hb f n a / 16 ≠ 4) ∨ (k = 3 ∧ hb f n a / 16 ≠ 6) then a else if n < a + hls k then n else if (k = 2 ∨ k = 8) ∧ hsZ f n k a < 20 then (if k = 2 then a else a + 12) else if n < a + hsZ f n k a then n else (if k = 9 then a + 4 else a + 2)
noncomputable def W_c_Headers_find_x : List (Nat × Nat) := [(18, 4), (18, 5), (18, 6)]
theorem c_Headers_find_x {A : Nat → Option (Nat × (Nat → Int32))} {Q : Option Value → jm → Prop} {T : jm} {M : jm} (hC_M : CI M) (ht_M : FR W_c_Headers_find_x T M) {t : Nat} (k_t : kd t = 18) {x : Int} (h_x : (-2147483648) ≤ x ∧ x ≤ 2147483647) {y : Int} (h_y : (-2147483648) ≤ y ∧ y ≤ 2147483647) {z : Int} (h_z : (-2147483648) ≤ z ∧ z ≤ 2147483647) (q : ∀ (M' : jm), CI M' → FR W_c_Headers_find_x T M' → (M' t 4 = x) → (M' t 5 = y) → (M' t 6 = z) → Q none M') : jc A 1 125 [.ref (t), .int (Int32.ofInt (x)), .int (Int32.ofInt (y)), .int (Int32.ofInt (z))] M Q := by
  refine jc_of (m := xm_125) rfl (Nat.le_of_ble_eq_true rfl) rfl ?_
  refine jr.aload_n rfl rfl ?_
  refine jr.iload_n rfl rfl ?_
  refine jr.putf (i := 4) (x := x) rfl rfl (Nat.lt_trans (kx_18 k_t).1 (by decide)) (kx_18 k_t).2 (by decide) rfl rfl rfl rfl rfl ?_
  refine jr.aload_n rfl rfl ?_
  refine jr.iload_n rfl rfl ?_
  refine jr.putf (i := 5) (x := y) rfl rfl (Nat.lt_trans (kx_18 k_t).1 (by decide)) (kx_18 k_t).2 (by decide) rfl rfl rfl rfl rfl ?_
  refine jr.aload_n rfl rfl ?_
  refine jr.iload_n rfl rfl ?_
  refine jr.putf (i := 6) (x := z) rfl rfl (Nat.lt_trans (kx_18 k_t).1 (by decide)) (kx_18 k_t).2 (by decide) rfl rfl rfl rfl rfl ?_
  exact jr.vreturn rfl rfl (q _ (CI.u (CI.u (CI.u hC_M (i := 4) k_t (show (-2147483648 : Int) ≤ _ ∧ _ ≤ (2147483647 : Int) from by omega) rfl) (i := 5) k_t (show (-2147483648 : Int) ≤ _ ∧ _ ≤ (2147483647 : Int) from by omega) rfl) (i := 6) k_t (show (-2147483648 : Int) ≤ _ ∧ _ ≤ (2147483647 : Int) from by omega) rfl) (FR.o (FR.o (FR.o ht_M k_t rfl) k_t rfl) k_t rfl)  (by have hq0 : (ju (ju (ju M t 4 x) t 5 y) t 6 z) t 4 = x := ((ju_i _ _ (by decide)).trans ((ju_i _ _ (by decide)).trans (ju_same _ _ _ _))); omega) (by have hq0 : (ju (ju (ju M t 4 x) t 5 y) t 6 z) t 5 = y := ((ju_i _ _ (by decide)).trans (ju_same _ _ _ _)); omega) (by have hq0 : (ju (ju (ju M t 4 x) t 5 y) t 6 z) t 6 = z := (ju_same _ _ _ _); omega))
noncomputable def W_c_Headers_isCut_x : List (Nat × Nat) := [(18, 4), (18, 5), (18, 6)]
end
