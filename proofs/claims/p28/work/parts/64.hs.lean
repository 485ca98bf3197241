section
/-! ===== headers: what a step finds ===== -/
noncomputable def hb (f : Int → Int) (n i : Int) : Int := if 0 ≤ i ∧ i < n then f i else 0
noncomputable def tw (f : Int → Int) (i : Int) : Int := f i * 256 + f (i + 1)
noncomputable def hls (k : Int) : Int := if k = 0 ∨ k = 1 ∨ k = 10 then 4 else if k = 2 ∨ k = 8 then 20 else if k = 3 then 24 else if k = 4 ∨ k = 5 then 2 else if k = 11 then 1 else 8
theorem hls_c0 : ∀ j : Nat, j < 12 → (xv_1.getD j 0).toInt = hls (j : Int) := by decide +kernel
theorem hls_c {k : Int} (h0 : 0 ≤ k) (h1 : k < 12) : xcv_1 k = hls k := by
  have q := hls_c0 k.toNat (by omega)
  rw [Int.toNat_of_nonneg h0] at q
  exact q
theorem hls_r (k : Int) : 1 ≤ hls k ∧ hls k ≤ 24 := by
  unfold hls
  repeat' split
  all_goals omega
/-- the bytes of a packet's row -/
noncomputable def BY8 (M : jm) (c : Nat) (f : Int → Int) : Prop := ∀ i : Int, 0 ≤ i → i < 400 → M c i = f i ∧ 0 ≤ f i ∧ f i ≤ 255
theorem BY8.fr {W : List (Nat × Nat)} {T M : jm} {c : Nat} {f : Int → Int} (h : BY8 T c f) (hk : kd c = 34) (hf : FR W T M) (h1 : ksep W [(34, 1000)] = true) : BY8 M c f := fun i h0 h2 => by
  rw [hf.s h1 hk 1000 (by decide) i (Or.inl rfl)]
  exact h i h0 h2
noncomputable def hsZ (f : Int → Int) (n k a : Int) : Int := if k = 2 then 4 * (hb f n a % 16) else if k = 8 then 4 * (hb f n (a + 12) / 16) else if k = 4 ∨ k = 5 then 8 * hb f n (a + 1) + 8 else if k = 11 then n - a else hls k
noncomputable def hsM (bk k : Int) : Prop := (k = 4 ∧ bk ≠ 3) ∨ ((k = 6 ∨ k = 5) ∧ bk ≠ 3 ∧ bk ≠ 4 ∧ bk ≠ 5)
noncomputable def hsT (f : Int → Int) (n k a : Int) : Prop := (k = 2 ∧ tw f (a + 2) ≠ n - a) ∨ (k = 3 ∧ tw f (a + 2) ≠ n - a - 24) ∨ (k = 9 ∧ tw f (a + 4) ≠ n - a)
theorem c_Packet_byteAt_h {A : Nat → Option (Nat × (Nat → Int32))} {Q : Option Value → jm → Prop} {f : Int → Int} {M : jm} (hC_M : CI M) {t : Nat} (k_t : kd t = 33) {x : Int} (h_x : (-2147483648) ≤ x ∧ x ≤ 2147483647) {N : Int} (g_N : M t 1 = N) (p0 : BY8 M (t + 1) f) (q : ∀ (r : Int), (-1) ≤ r ∧ r ≤ 255 → (r = hb f N x ∧ 0 ≤ r) → Q (some (.int (Int32.ofInt r))) M) : jc A 1 192 [.ref (t), .int (Int32.ofInt (x))] M Q := by
  have k_by : kd (t + 1) = 34 := (kf_33_0 k_t).2
  refine jc_of (m := xm_192) rfl (Nat.le_of_ble_eq_true rfl) rfl ?_
  have b_N : (-1) ≤ N ∧ N ≤ 400 := by rw [← g_N]; exact (CI.r hC_M k_t (by decide) 1)
  refine jr.iload_n rfl rfl ?_
  refine jr.if_lt rfl rfl (by omega) (fun h1 => ?_) (fun h1 => ?_)
  · refine jr.iconst rfl ?_
    exact jr.ireturn rfl rfl rfl (q _ (by omega) (by first | (have hq := p0 x (by omega) (by omega); unfold hb; rw [if_pos (by omega)]; omega) | (unfold hb; rw [if_neg (by omega)]; omega)))
  · refine jr.iload_n rfl rfl ?_
    refine jr.aload_n rfl rfl ?_
    refine jr.getf (i := 1) (x := N) (v := .int (Int32.ofInt (N))) rfl rfl (Nat.lt_trans (kx_33 k_t).1 (by decide)) (kx_33 k_t).2 (by decide) rfl rfl g_N rfl ?_
    refine jr.icmp_ge rfl rfl (by omega) (by omega) (fun h9 => ?_) (fun h9 => ?_)
    · refine jr.iconst rfl ?_
      exact jr.ireturn rfl rfl rfl (q _ (by omega) (by first | (have hq := p0 x (by omega) (by omega); unfold hb; rw [if_pos (by omega)]; omega) | (unfold hb; rw [if_neg (by omega)]; omega)))
    · refine jr.aload_n rfl rfl ?_
      have k1 := kf_33_0 k_t
      refine jr.getf (i := 0) (v := .ref (t + 1)) rfl rfl (Nat.lt_trans (kx_33 k_t).1 (by decide)) (kx_33 k_t).2 (by decide) rfl rfl rfl (jval_ref rfl k1.1) ?_
      refine jr.iload_n rfl rfl ?_
      obtain ⟨v2, e2⟩ : ∃ z_, M ((t + 1)) x = z_ := ⟨_, rfl⟩
      have b2 : (-1) ≤ v2 ∧ v2 ≤ 255 := by rw [← e2]; exact (CI.r hC_M k1.2 (by decide) x)
      refine jr.iald (i := x) (x := v2) rfl (Nat.lt_trans (kx_34 k1.2).1 (by decide)) (kx_34 k1.2).2 (by decide) (by omega) (by omega) e2 ?_
      refine jr.goto rfl rfl ?_
      exact jr.ireturn rfl rfl rfl (q _ (by omega) (by first | (have hq := p0 x (by omega) (by omega); unfold hb; rw [if_pos (by omega)]; omega) | (unfold hb; rw [if_neg (by omega)]; omega)))
theorem c_Packet_numberFrom_h {A : Nat → Option (Nat × (Nat → Int32))} {Q : Option Value → jm → Prop} {f : Int → Int} {M : jm} (hC_M : CI M) {t : Nat} (k_t : kd t = 33) {x : Int} (h_x : 0 ≤ x ∧ x ≤ 398) (p0 : BY8 M (t + 1) f) (q : ∀ (r : Int), 0 ≤ r ∧ r ≤ 65535 → (r = tw f x ∧ 0 ≤ r ∧ r ≤ 65535) → Q (some (.long (Int64.ofInt r))) M) : jc A 2 193 [.ref (t), .int (Int32.ofInt (x)), .int (Int32.ofInt (2))] M Q := by
  have k_by : kd (t + 1) = 34 := (kf_33_0 k_t).2
  refine jc_of (m := xm_193) rfl (Nat.le_of_ble_eq_true rfl) rfl ?_
  refine jr.aload_n rfl rfl ?_
  have k1 := kf_33_0 k_t
  refine jr.getf (i := 0) (v := .ref (t + 1)) rfl rfl (Nat.lt_trans (kx_33 k_t).1 (by decide)) (kx_33 k_t).2 (by decide) rfl rfl rfl (jval_ref rfl k1.1) ?_
  refine jr.iload_n rfl rfl ?_
  refine jr.iload_n rfl rfl ?_
  refine jr_s rfl rfl (Or.inr rfl) ⟨Nat.le_of_ble_eq_true rfl, Nat.le_of_ble_eq_true rfl⟩ rfl rfl (jc.deep (c_PacketWall_numberAt_px hC_M k1.2 (by omega) (by omega) (by omega) (fun k h0 h1 => by have hq := p0 k h0 h1; omega) (fun r2 z2 w2_0 => ?_)) (by decide))
  have hv2 : 0 ≤ r2 ∧ r2 ≤ 65535 := (by have h1 := w2_0; have h2 := p0 x (by omega) (by omega); have h3 := p0 (x + 1) (by omega) (by omega); rw [show (2 : Int).toNat = 2 from rfl, nbs_2] at h1; omega)
  exact jr.lreturn rfl rfl (q _ (by omega) (by have h1 := w2_0; have h2 := p0 x (by omega) (by omega); have h3 := p0 (x + 1) (by omega) (by omega); rw [show (2 : Int).toNat = 2 from rfl, nbs_2] at h1; unfold tw; omega))
theorem c_Headers_fullSize_x {A : Nat → Option (Nat × (Nat → Int32))} {Q : Option Value → jm → Prop} {f : Int → Int} {M : jm} (hC_M : CI M) {t : Nat} (k_t : kd t = 18) {x : Int} (h_x : 0 ≤ x ∧ x ≤ 11) {y : Int} (h_y : 0 ≤ y ∧ y ≤ 400) {S : Int} (g_S : M t 7 = S) {N : Int} (g_N : M ((S.toNat)) 1 = N) (p0 : BY8 M (S.toNat + 1) f) (q : ∀ (r : Int), (-401) ≤ r ∧ r ≤ 2048 → (r = hsZ f N x y) → Q (some (.int (Int32.ofInt r))) M) : jc A 2 130 [.ref (t), .int (Int32.ofInt (x)), .int (Int32.ofInt (y))] M Q := by
  refine jc_of (m := xm_130) rfl (Nat.le_of_ble_eq_true rfl) rfl ?_
  have k_S : kd S.toNat = 33 := (congrArg (fun z : Int => kd z.toNat) g_S).symm.trans (CI.x hC_M k_t 7 rfl (by decide))
  have b_N : (-1) ≤ N ∧ N ≤ 400 := by rw [← g_N]; exact (CI.r hC_M k_S (by decide) 1)
  have k_by : kd (S.toNat + 1) = 34 := (kf_33_0 k_S).2
  refine jr.iload_n rfl rfl ?_
  rcases (show x = 2 ∨ x = 3 ∨ x = 4 ∨ x = 5 ∨ x = 6 ∨ x = 7 ∨ x = 8 ∨ x = 9 ∨ x = 10 ∨ x = 11 ∨ (x ≠ 2 ∧ x ≠ 3 ∧ x ≠ 4 ∧ x ≠ 5 ∧ x ≠ 6 ∧ x ≠ 7 ∧ x ≠ 8 ∧ x ≠ 9 ∧ x ≠ 10 ∧ x ≠ 11) by omega) with h1 | h1 | h1 | h1 | h1 | h1 | h1 | h1 | h1 | h1 | h1
  · refine jr.tsw_k 2 rfl h1 rfl ?_
    refine jr.iconst rfl ?_
    refine jr.aload_n rfl rfl ?_
    refine jr.getf (i := 7) (x := S) (v := .ref (S.toNat)) rfl rfl (Nat.lt_trans (kx_18 k_t).1 (by decide)) (kx_18 k_t).2 (by decide) rfl rfl g_S (jval_mut rfl (kn_18_7 k_t)) ?_
    refine jr.iload_n rfl rfl ?_
    refine jr_v rfl rfl (Or.inl rfl) rfl rfl (Nat.lt_trans (kx_33 k_S).1 (by decide)) (kx_33 k_S).2 ⟨rfl, Nat.le_of_ble_eq_true rfl, Nat.le_of_ble_eq_true rfl⟩ rfl (jc.deep (c_Packet_byteAt_h hC_M k_S (by omega) g_N p0 (fun r2 z2 w2_0 => ?_)) (by decide))
    refine jr.bipush rfl (by decide) ?_
    refine jr.iand rfl ?_
    have b3 : j_and r2 15 = r2 % 16 := j_and_m 4 (by decide) _
    generalize j_and r2 15 = v3 at b3 ⊢
    refine jr.imul rfl ?_
    exact jr.ireturn rfl rfl rfl (q _ (by omega) (by unfold hsZ; (repeat' split) <;> omega))
  · refine jr.tsw_k 3 rfl h1 rfl ?_
    refine jr.gst (v := .ref 1000001) rfl rfl ?_
    refine jr.iload_n rfl rfl ?_
    obtain ⟨v4, e4⟩ : ∃ z_, xcv_1 x = z_ := ⟨_, rfl⟩
    have b4 : 1 ≤ v4 ∧ v4 ≤ 24 := by rw [← e4]; exact xcr_1 (by omega) (by omega)
    refine jr.ials (i := x) v4 rfl (by decide) rfl (by decide) (by omega) (by omega) (by rw [← e4]; exact (Int32.ofInt_toInt _).symm) ?_
    have hl1 := hls_c (k := x) (by omega) (by omega)
    exact jr.ireturn rfl rfl rfl (q _ (by omega) (by unfold hsZ; (repeat' split) <;> omega))
  · refine jr.tsw_k 4 rfl h1 rfl ?_
    refine jr.bipush rfl (by decide) ?_
    refine jr.aload_n rfl rfl ?_
    refine jr.getf (i := 7) (x := S) (v := .ref (S.toNat)) rfl rfl (Nat.lt_trans (kx_18 k_t).1 (by decide)) (kx_18 k_t).2 (by decide) rfl rfl g_S (jval_mut rfl (kn_18_7 k_t)) ?_
    refine jr.iload_n rfl rfl ?_
    refine jr.iconst rfl ?_
    refine jr.iadd rfl ?_
    refine jr_v rfl rfl (Or.inl rfl) rfl rfl (Nat.lt_trans (kx_33 k_S).1 (by decide)) (kx_33 k_S).2 ⟨rfl, Nat.le_of_ble_eq_true rfl, Nat.le_of_ble_eq_true rfl⟩ rfl (jc.deep (c_Packet_byteAt_h hC_M k_S (by omega) g_N p0 (fun r6 z6 w6_0 => ?_)) (by decide))
    refine jr.imul rfl ?_
    refine jr.bipush rfl (by decide) ?_
    refine jr.iadd rfl ?_
    exact jr.ireturn rfl rfl rfl (q _ (by omega) (by unfold hsZ; (repeat' split) <;> omega))
  · refine jr.tsw_k 5 rfl h1 rfl ?_
    refine jr.bipush rfl (by decide) ?_
    refine jr.aload_n rfl rfl ?_
    refine jr.getf (i := 7) (x := S) (v := .ref (S.toNat)) rfl rfl (Nat.lt_trans (kx_18 k_t).1 (by decide)) (kx_18 k_t).2 (by decide) rfl rfl g_S (jval_mut rfl (kn_18_7 k_t)) ?_
    refine jr.iload_n rfl rfl ?_
    refine jr.iconst rfl ?_
    refine jr.iadd rfl ?_
    refine jr_v rfl rfl (Or.inl rfl) rfl rfl (Nat.lt_trans (kx_33 k_S).1 (by decide)) (kx_33 k_S).2 ⟨rfl, Nat.le_of_ble_eq_true rfl, Nat.le_of_ble_eq_true rfl⟩ rfl (jc.deep (c_Packet_byteAt_h hC_M k_S (by omega) g_N p0 (fun r8 z8 w8_0 => ?_)) (by decide))
    refine jr.imul rfl ?_
    refine jr.bipush rfl (by decide) ?_
    refine jr.iadd rfl ?_
    exact jr.ireturn rfl rfl rfl (q _ (by omega) (by unfold hsZ; (repeat' split) <;> omega))
  · refine jr.tsw_k 6 rfl h1 rfl ?_
    refine jr.gst (v := .ref 1000001) rfl rfl ?_
    refine jr.iload_n rfl rfl ?_
    obtain ⟨v9, e9⟩ : ∃ z_, xcv_1 x = z_ := ⟨_, rfl⟩
    have b9 : 1 ≤ v9 ∧ v9 ≤ 24 := by rw [← e9]; exact xcr_1 (by omega) (by omega)
    refine jr.ials (i := x) v9 rfl (by decide) rfl (by decide) (by omega) (by omega) (by rw [← e9]; exact (Int32.ofInt_toInt _).symm) ?_
    have hl1 := hls_c (k := x) (by omega) (by omega)
    exact jr.ireturn rfl rfl rfl (q _ (by omega) (by unfold hsZ; (repeat' split) <;> omega))
  · refine jr.tsw_k 7 rfl h1 rfl ?_
    refine jr.gst (v := .ref 1000001) rfl rfl ?_
    refine jr.iload_n rfl rfl ?_
    obtain ⟨v10, e10⟩ : ∃ z_, xcv_1 x = z_ := ⟨_, rfl⟩
    have b10 : 1 ≤ v10 ∧ v10 ≤ 24 := by rw [← e10]; exact xcr_1 (by omega) (by omega)
    refine jr.ials (i := x) v10 rfl (by decide) rfl (by decide) (by omega) (by omega) (by rw [← e10]; exact (Int32.ofInt_toInt _).symm) ?_
    have hl1 := hls_c (k := x) (by omega) (by omega)
    exact jr.ireturn rfl rfl rfl (q _ (by omega) (by unfold hsZ; (repeat' split) <;> omega))
  · refine jr.tsw_k 8 rfl h1 rfl ?_
    refine jr.iconst rfl ?_
    refine jr.aload_n rfl rfl ?_
    refine jr.getf (i := 7) (x := S) (v := .ref (S.toNat)) rfl rfl (Nat.lt_trans (kx_18 k_t).1 (by decide)) (kx_18 k_t).2 (by decide) rfl rfl g_S (jval_mut rfl (kn_18_7 k_t)) ?_
    refine jr.iload_n rfl rfl ?_
    refine jr.bipush rfl (by decide) ?_
    refine jr.iadd rfl ?_
    refine jr_v rfl rfl (Or.inl rfl) rfl rfl (Nat.lt_trans (kx_33 k_S).1 (by decide)) (kx_33 k_S).2 ⟨rfl, Nat.le_of_ble_eq_true rfl, Nat.le_of_ble_eq_true rfl⟩ rfl (jc.deep (c_Packet_byteAt_h hC_M k_S (by omega) g_N p0 (fun r12 z12 w12_0 => ?_)) (by decide))
    refine jr.iconst rfl ?_
    refine jr.ishr rfl ?_
    have b13 : j_shr r12 4 = r12 / 16 := j_shr_ex 4 (by decide) (by omega) (by omega)
    generalize j_shr r12 4 = v13 at b13 ⊢
    refine jr.imul rfl ?_
    exact jr.ireturn rfl rfl rfl (q _ (by omega) (by unfold hsZ; (repeat' split) <;> omega))
  · refine jr.tsw_k 9 rfl h1 rfl ?_
    refine jr.gst (v := .ref 1000001) rfl rfl ?_
    refine jr.iload_n rfl rfl ?_
    obtain ⟨v14, e14⟩ : ∃ z_, xcv_1 x = z_ := ⟨_, rfl⟩
    have b14 : 1 ≤ v14 ∧ v14 ≤ 24 := by rw [← e14]; exact xcr_1 (by omega) (by omega)
    refine jr.ials (i := x) v14 rfl (by decide) rfl (by decide) (by omega) (by omega) (by rw [← e14]; exact (Int32.ofInt_toInt _).symm) ?_
    have hl1 := hls_c (k := x) (by omega) (by omega)
    exact jr.ireturn rfl rfl rfl (q _ (by omega) (by unfold hsZ; (repeat' split) <;> omega))
  · refine jr.tsw_k 10 rfl h1 rfl ?_
    refine jr.gst (v := .ref 1000001) rfl rfl ?_
    refine jr.iload_n rfl rfl ?_
    obtain ⟨v15, e15⟩ : ∃ z_, xcv_1 x = z_ := ⟨_, rfl⟩
    have b15 : 1 ≤ v15 ∧ v15 ≤ 24 := by rw [← e15]; exact xcr_1 (by omega) (by omega)
    refine jr.ials (i := x) v15 rfl (by decide) rfl (by decide) (by omega) (by omega) (by rw [← e15]; exact (Int32.ofInt_toInt _).symm) ?_
    have hl1 := hls_c (k := x) (by omega) (by omega)
    exact jr.ireturn rfl rfl rfl (q _ (by omega) (by unfold hsZ; (repeat' split) <;> omega))
  · refine jr.tsw_k 11 rfl h1 rfl ?_
    refine jr.aload_n rfl rfl ?_
    refine jr.getf (i := 7) (x := S) (v := .ref (S.toNat)) rfl rfl (Nat.lt_trans (kx_18 k_t).1 (by decide)) (kx_18 k_t).2 (by decide) rfl rfl g_S (jval_mut rfl (kn_18_7 k_t)) ?_
    refine jr.getf (i := 1) (x := N) (v := .int (Int32.ofInt (N))) rfl rfl (Nat.lt_trans (kx_33 k_S).1 (by decide)) (kx_33 k_S).2 (by decide) rfl rfl g_N rfl ?_
    refine jr.iload_n rfl rfl ?_
    refine jr.isub rfl ?_
    exact jr.ireturn rfl rfl rfl (q _ (by omega) (by unfold hsZ; (repeat' split) <;> omega))
  · refine jr.tsw_d rfl (by omega) (by omega) rfl ?_
    refine jr.gst (v := .ref 1000001) rfl rfl ?_
    refine jr.iload_n rfl rfl ?_
    obtain ⟨v17, e17⟩ : ∃ z_, xcv_1 x = z_ := ⟨_, rfl⟩
    have b17 : 1 ≤ v17 ∧ v17 ≤ 24 := by rw [← e17]; exact xcr_1 (by omega) (by omega)
    refine jr.ials (i := x) v17 rfl (by decide) rfl (by decide) (by omega) (by omega) (by rw [← e17]; exact (Int32.ofInt_toInt _).symm) ?_
    have hl1 := hls_c (k := x) (by omega) (by omega)
    exact jr.ireturn rfl rfl rfl (q _ (by omega) (by unfold hsZ; (repeat' split) <;> omega))
noncomputable def bkf (g : Int → Int) (c : Int) : Int := if 1 ≤ c then g (c - 1) else -1
noncomputable def hsF (f : Int → Int) (n c bk k a : Int) : Int := if 12 ≤ c then 6 else if (k = 4 ∧ bk ≠ 3) ∨ ((k = 6 ∨ k = 5) ∧ bk ≠ 3 ∧ bk ≠ 4 ∧ bk ≠ 5) then 3 else if (k = 2 ∨ k = 3) ∧ n < a + 1 then 1 else if (k = 2 ∧ hb f n a / 16 ≠ 4) ∨ (k = 3 ∧ hb f n a / 16 ≠ 6) then 3 else if n < a + hls k then 1 else if (k = 2 ∨ k = 8) ∧ hsZ f n k a < 20 then 4 else if n < a + hsZ f n k a then 1 else if (k = 2 ∧ tw f (a + 2) ≠ n - a) ∨ (k = 3 ∧ tw f (a + 2) ≠ n - a - 24) ∨ (k = 9 ∧ tw f (a + 4) ≠ n - a) then 5 else 0
noncomputable def hsW (f : Int → Int) (n c bk k a : Int) : Int := if 12 ≤ c then a else if (k = 4 ∧ bk ≠ 3) ∨ ((k = 6 ∨ k = 5) ∧ bk ≠ 3 ∧ bk ≠ 4 ∧ bk ≠ 5) then a else if (k = 2 ∨ k = 3) ∧ n < a + 1 then n else if (k = 2 ∧ hb f n a / 16 ≠ 4) ∨ (k = 3 ∧ hb f n a / 16 ≠ 6) then a else if n < a + hls k then n else if (k = 2 ∨ k = 8) ∧ hsZ f n k a < 20 then (if k = 2 then a else a + 12) else if n < a + hsZ f n k a then n else (if k = 9 then a + 4 else a + 2)
noncomputable def W_c_Headers_find_x : List (Nat × Nat) := [(18, 4), (18, 5), (18, 6)]
theorem c_Headers_find_x {A : Nat → Option (Nat × (Nat → Int32))} {Q : Option Value → jm → Prop} {T : jm} {M : jm} (hC_M : CI M) (ht_M : FR W_c_Headers_find_x T M) {t : Nat} (k_t : kd t = 18) {x : Int} (h_x : (-2147483648) ≤ x ∧ x ≤ 2147483647) {y : Int} (h_y : (-2147483648) ≤ y ∧ y ≤ 2147483647) {z : Int} (h_z : (-2147483648) ≤ z ∧ z ≤ 2147483647) (q : ∀ (M' : jm), CI M' → FR W_c_Headers_find_x T M' → (M' t 4 = x) → (M' t 5 = y) → (M' t 6 = z) → Q none M') : jc A 1 125 [.ref (t), .int (Int32.ofInt (x)), .int (Int32.ofInt (y)), .int (Int32.ofInt (z))] M Q := by
  refine jc_of (m := xm_125) rfl (Nat.le_of_ble_eq_true rfl) rfl ?_
  refine jr.aload_n rfl rfl ?_
  refine jr.iload_n rfl rfl ?_
  refine jr.putf (i := 4) (x := x) rfl rfl (Nat.lt_trans (kx_18 k_t).1 (by decide)) (kx_18 k_t).2 (by decide) rfl rfl rfl rfl rfl ?_
  refine jr.aload_n rfl rfl ?_
  refine jr.iload_n rfl rfl ?_
  refine jr.putf (i := 5) (x := y) rfl rfl (Nat.lt_trans (kx_18 k_t).1 (by decide)) (kx_18 k_t).2 (by decide) rfl rfl rfl rfl rfl ?_
  refine jr.aload_n rfl rfl ?_
  refine jr.iload_n rfl rfl ?_
  refine jr.putf (i := 6) (x := z) rfl rfl (Nat.lt_trans (kx_18 k_t).1 (by decide)) (kx_18 k_t).2 (by decide) rfl rfl rfl rfl rfl ?_
  exact jr.vreturn rfl rfl (q _ (CI.u (CI.u (CI.u hC_M (i := 4) k_t (show (-2147483648 : Int) ≤ _ ∧ _ ≤ (2147483647 : Int) from by omega) rfl) (i := 5) k_t (show (-2147483648 : Int) ≤ _ ∧ _ ≤ (2147483647 : Int) from by omega) rfl) (i := 6) k_t (show (-2147483648 : Int) ≤ _ ∧ _ ≤ (2147483647 : Int) from by omega) rfl) (FR.o (FR.o (FR.o ht_M k_t rfl) k_t rfl) k_t rfl)  (by have hq0 : (ju (ju (ju M t 4 x) t 5 y) t 6 z) t 4 = x := ((ju_i _ _ (by decide)).trans ((ju_i _ _ (by decide)).trans (ju_same _ _ _ _))); omega) (by have hq0 : (ju (ju (ju M t 4 x) t 5 y) t 6 z) t 5 = y := ((ju_i _ _ (by decide)).trans (ju_same _ _ _ _)); omega) (by have hq0 : (ju (ju (ju M t 4 x) t 5 y) t 6 z) t 6 = z := (ju_same _ _ _ _); omega))
noncomputable def W_c_Headers_isCut_x : List (Nat × Nat) := [(18, 4), (18, 5), (18, 6)]
theorem c_Headers_isCut_x {A : Nat → Option (Nat × (Nat → Int32))} {Q : Option Value → jm → Prop} {T : jm} {M : jm} (hC_M : CI M) (ht_M : FR W_c_Headers_isCut_x T M) {t : Nat} (k_t : kd t = 18) {x : Int} (h_x : (-2147483648) ≤ x ∧ x ≤ 2147483647) {y : Int} (h_y : (-2147483648) ≤ y ∧ y ≤ 2147483647) {S : Int} (g_S : M t 7 = S) {N : Int} (g_N : M ((S.toNat)) 1 = N) {F : Int} (g_F : M t 4 = F) {G : Int} (g_G : M t 5 = G) {H : Int} (g_H : M t 6 = H) (q : ∀ (r : Int) (M' : jm), CI M' → FR W_c_Headers_isCut_x T M' → 0 ≤ r ∧ r ≤ 1 → ((N < y ∧ r = 1 ∧ M' t 4 = 1 ∧ M' t 5 = N ∧ M' t 6 = x) ∨ (y ≤ N ∧ M' t 4 = F ∧ M' t 5 = G ∧ M' t 6 = H ∧ ((r = 1 ∧ F ≠ 0) ∨ (r = 0 ∧ F = 0)))) → Q (some (.int (Int32.ofInt r))) M') : jc A 2 126 [.ref (t), .int (Int32.ofInt (x)), .int (Int32.ofInt (y))] M Q := by
  refine jc_of (m := xm_126) rfl (Nat.le_of_ble_eq_true rfl) rfl ?_
  have k_S : kd S.toNat = 33 := (congrArg (fun z : Int => kd z.toNat) g_S).symm.trans (CI.x hC_M k_t 7 rfl (by decide))
  have b_N : (-1) ≤ N ∧ N ≤ 400 := by rw [← g_N]; exact (CI.r hC_M k_S (by decide) 1)
  have b_F : (-2147483648) ≤ F ∧ F ≤ 2147483647 := by rw [← g_F]; exact (CI.r hC_M k_t (by decide) 4)
  have b_G : (-2147483648) ≤ G ∧ G ≤ 2147483647 := by rw [← g_G]; exact (CI.r hC_M k_t (by decide) 5)
  have b_H : (-2147483648) ≤ H ∧ H ≤ 2147483647 := by rw [← g_H]; exact (CI.r hC_M k_t (by decide) 6)
  refine jr.iload_n rfl rfl ?_
  refine jr.aload_n rfl rfl ?_
  refine jr.getf (i := 7) (x := S) (v := .ref (S.toNat)) rfl rfl (Nat.lt_trans (kx_18 k_t).1 (by decide)) (kx_18 k_t).2 (by decide) rfl rfl g_S (jval_mut rfl (kn_18_7 k_t)) ?_
  refine jr.getf (i := 1) (x := N) (v := .int (Int32.ofInt (N))) rfl rfl (Nat.lt_trans (kx_33 k_S).1 (by decide)) (kx_33 k_S).2 (by decide) rfl rfl g_N rfl ?_
  refine jr.icmp_le rfl rfl (by omega) (by omega) (fun h8 => ?_) (fun h8 => ?_)
  · refine jr.aload_n rfl rfl ?_
    refine jr.getf (i := 4) (x := F) (v := .int (Int32.ofInt (F))) rfl rfl (Nat.lt_trans (kx_18 k_t).1 (by decide)) (kx_18 k_t).2 (by decide) rfl rfl g_F rfl ?_
    refine jr.if_eq rfl rfl (by omega) (fun h28 => ?_) (fun h28 => ?_)
    · refine jr.iconst rfl ?_
      exact jr.ireturn rfl rfl rfl (q _ _ hC_M ht_M (by omega) (by have hq0 : M t 4 = F := g_F; have hq1 : M t 5 = G := g_G; have hq2 : M t 6 = H := g_H; omega))
    · refine jr.iconst rfl ?_
      refine jr.goto rfl rfl ?_
      exact jr.ireturn rfl rfl rfl (q _ _ hC_M ht_M (by omega) (by have hq0 : M t 4 = F := g_F; have hq1 : M t 5 = G := g_G; have hq2 : M t 6 = H := g_H; omega))
  · refine jr.aload_n rfl rfl ?_
    refine jr.iconst rfl ?_
    refine jr.aload_n rfl rfl ?_
    refine jr.getf (i := 7) (x := S) (v := .ref (S.toNat)) rfl rfl (Nat.lt_trans (kx_18 k_t).1 (by decide)) (kx_18 k_t).2 (by decide) rfl rfl g_S (jval_mut rfl (kn_18_7 k_t)) ?_
    refine jr.getf (i := 1) (x := N) (v := .int (Int32.ofInt (N))) rfl rfl (Nat.lt_trans (kx_33 k_S).1 (by decide)) (kx_33 k_S).2 (by decide) rfl rfl g_N rfl ?_
    refine jr.iload_n rfl rfl ?_
    refine jr_v rfl rfl (Or.inl rfl) rfl rfl (Nat.lt_trans (kx_18 k_t).1 (by decide)) (kx_18 k_t).2 ⟨rfl, Nat.le_of_ble_eq_true rfl, Nat.le_of_ble_eq_true rfl⟩ rfl (jc.deep (c_Headers_find_x hC_M (FR.rfl _ M) k_t (by omega) (by omega) (by omega) (fun M3 hC_M3 hf_M3 w3_0 w3_1 w3_2 => ?_)) (by decide))
    have ht_M3 : FR W_c_Headers_isCut_x T M3 := FR.t ht_M hf_M3 (kw_sub rfl)
    have b4 : (-2147483648) ≤ 1 ∧ 1 ≤ 2147483647 := by omega
    have b5 : (-2147483648) ≤ N ∧ N ≤ 2147483647 := by omega
    have b6 : (-2147483648) ≤ x ∧ x ≤ 2147483647 := by omega
    refine jr.aload_n rfl rfl ?_
    refine jr.getf (i := 4) (x := 1) (v := .int (Int32.ofInt (1))) rfl rfl (Nat.lt_trans (kx_18 k_t).1 (by decide)) (kx_18 k_t).2 (by decide) rfl rfl w3_0 rfl ?_
    refine jr.if_eq rfl rfl (by omega) (fun h28 => ?_) (fun h28 => ?_)
    · refine jr.iconst rfl ?_
      exact jr.ireturn rfl rfl rfl (q _ _ hC_M3 ht_M3 (by omega) (by have hq0 : M3 t 4 = 1 := w3_0; have hq1 : M3 t 5 = N := w3_1; have hq2 : M3 t 6 = x := w3_2; omega))
    · refine jr.iconst rfl ?_
      refine jr.goto rfl rfl ?_
      exact jr.ireturn rfl rfl rfl (q _ _ hC_M3 ht_M3 (by omega) (by have hq0 : M3 t 4 = 1 := w3_0; have hq1 : M3 t 5 = N := w3_1; have hq2 : M3 t 6 = x := w3_2; omega))
noncomputable def W_c_Headers_isOtherVersion_x : List (Nat × Nat) := [(18, 4), (18, 5), (18, 6)]
theorem c_Headers_isOtherVersion_x {A : Nat → Option (Nat × (Nat → Int32))} {Q : Option Value → jm → Prop} {f : Int → Int} {T : jm} {M : jm} (hC_M : CI M) (ht_M : FR W_c_Headers_isOtherVersion_x T M) {t : Nat} (k_t : kd t = 18) {x : Int} (h_x : 2 ≤ x ∧ x ≤ 3) {y : Int} (h_y : 0 ≤ y ∧ y ≤ 400) {S : Int} (g_S : M t 7 = S) {N : Int} (g_N : M ((S.toNat)) 1 = N) {F : Int} (g_F : M t 4 = F) {G : Int} (g_G : M t 5 = G) {H : Int} (g_H : M t 6 = H) (p0 : BY8 M (S.toNat + 1) f) (p1 : F = 0) (q : ∀ (r : Int) (M' : jm), CI M' → FR W_c_Headers_isOtherVersion_x T M' → 0 ≤ r ∧ r ≤ 1 → ((N < y + 1 ∧ r = 1 ∧ M' t 4 = 1 ∧ M' t 5 = N ∧ M' t 6 = x) ∨ (y + 1 ≤ N ∧ ((x = 2 ∧ hb f N y / 16 ≠ 4) ∨ (x = 3 ∧ hb f N y / 16 ≠ 6)) ∧ r = 1 ∧ M' t 4 = 3 ∧ M' t 5 = y ∧ M' t 6 = x) ∨ (y + 1 ≤ N ∧ ¬ ((x = 2 ∧ hb f N y / 16 ≠ 4) ∨ (x = 3 ∧ hb f N y / 16 ≠ 6)) ∧ r = 0 ∧ M' t 4 = 0 ∧ M' t 5 = G ∧ M' t 6 = H)) → Q (some (.int (Int32.ofInt r))) M') : jc A 3 129 [.ref (t), .int (Int32.ofInt (x)), .int (Int32.ofInt (y))] M Q := by
  refine jc_of (m := xm_129) rfl (Nat.le_of_ble_eq_true rfl) rfl ?_
  have k_S : kd S.toNat = 33 := (congrArg (fun z : Int => kd z.toNat) g_S).symm.trans (CI.x hC_M k_t 7 rfl (by decide))
  have b_N : (-1) ≤ N ∧ N ≤ 400 := by rw [← g_N]; exact (CI.r hC_M k_S (by decide) 1)
  have b_F : (-2147483648) ≤ F ∧ F ≤ 2147483647 := by rw [← g_F]; exact (CI.r hC_M k_t (by decide) 4)
  have b_G : (-2147483648) ≤ G ∧ G ≤ 2147483647 := by rw [← g_G]; exact (CI.r hC_M k_t (by decide) 5)
  have b_H : (-2147483648) ≤ H ∧ H ≤ 2147483647 := by rw [← g_H]; exact (CI.r hC_M k_t (by decide) 6)
  have k_by : kd (S.toNat + 1) = 34 := (kf_33_0 k_S).2
  refine jr.aload_n rfl rfl ?_
  refine jr.iload_n rfl rfl ?_
  refine jr.iload_n rfl rfl ?_
  refine jr.iconst rfl ?_
  refine jr.iadd rfl ?_
  have k1_S : kd (S).toNat = 33 := (congrArg (fun z : Int => kd z.toNat) g_S).symm.trans (CI.x hC_M k_t 7 rfl (by decide))
  refine jr_v rfl rfl (Or.inl rfl) rfl rfl (Nat.lt_trans (kx_18 k_t).1 (by decide)) (kx_18 k_t).2 ⟨rfl, Nat.le_of_ble_eq_true rfl, Nat.le_of_ble_eq_true rfl⟩ rfl (jc.deep (c_Headers_isCut_x hC_M (FR.rfl _ M) k_t (by omega) (by omega) g_S g_N g_F g_G g_H (fun r1 M1 hC_M1 hf_M1 z1 w1_0 => ?_)) (by decide))
  have ht_M1 : FR W_c_Headers_isOtherVersion_x T M1 := FR.t ht_M hf_M1 (kw_sub rfl)
  obtain ⟨v2, e2⟩ : ∃ z_, M1 t 4 = z_ := ⟨_, rfl⟩
  have b2 : (-2147483648) ≤ v2 ∧ v2 ≤ 2147483647 := by rw [← e2]; exact (CI.r hC_M1 k_t (by decide) 4)
  obtain ⟨v3, e3⟩ : ∃ z_, M1 t 5 = z_ := ⟨_, rfl⟩
  have b3 : (-2147483648) ≤ v3 ∧ v3 ≤ 2147483647 := by rw [← e3]; exact (CI.r hC_M1 k_t (by decide) 5)
  obtain ⟨v4, e4⟩ : ∃ z_, M1 t 6 = z_ := ⟨_, rfl⟩
  have b4 : (-2147483648) ≤ v4 ∧ v4 ≤ 2147483647 := by rw [← e4]; exact (CI.r hC_M1 k_t (by decide) 6)
  refine jr.if_eq rfl rfl (by omega) (fun h8 => ?_) (fun h8 => ?_)
  · have w1 := w1_0.resolve_left (fun z => absurd z.2.1 (by omega))
    obtain ⟨w1a, w1b, w1c, w1d, w1e⟩ := w1
    have w1f : F = 0 := (w1e.resolve_left (fun z => absurd z.1 (by omega))).2
    clear w1_0 w1e
    refine jr.aload_n rfl rfl ?_
    have e5 : M1 t 7 = S := (hf_M1.g k_t rfl).trans g_S
    have k6 : kd (S).toNat = 33 := ((congrArg (fun z : Int => kd z.toNat) (show M1 t 7 = S from e5)).symm.trans (CI.x hC_M1 k_t 7 rfl (by decide)))
    refine jr.getf (i := 7) (x := S) (v := .ref (S.toNat)) rfl rfl (Nat.lt_trans (kx_18 k_t).1 (by decide)) (kx_18 k_t).2 (by decide) rfl rfl e5 (jval_mut rfl (kn_18_7 k_t)) ?_
    refine jr.iload_n rfl rfl ?_
    have e8 : M1 ((S.toNat)) 1 = N := (hf_M1.g k6 rfl).trans g_N
    refine jr_v rfl rfl (Or.inl rfl) rfl rfl (Nat.lt_trans (kx_33 k6).1 (by decide)) (kx_33 k6).2 ⟨rfl, Nat.le_of_ble_eq_true rfl, Nat.le_of_ble_eq_true rfl⟩ rfl (jc.deep (c_Packet_byteAt_h hC_M1 k6 (by omega) e8 (BY8.fr p0 k_by hf_M1 rfl) (fun r7 z7 w7_0 => ?_)) (by decide))
    refine jr.iconst rfl ?_
    refine jr.ishr rfl ?_
    have b9 : j_shr r7 4 = r7 / 16 := j_shr_ex 4 (by decide) (by omega) (by omega)
    generalize j_shr r7 4 = v9 at b9 ⊢
    refine jr.iload_n rfl rfl ?_
    refine jr.iconst rfl ?_
    refine jr.icmp_ne rfl rfl (by omega) (by omega) (fun h25 => ?_) (fun h25 => ?_)
    · have sx25 : (3 : Int) ≤ x := by omega
      refine jr.bipush rfl (by decide) ?_
      refine jr.icmp_eq rfl rfl (by omega) (by omega) (fun h34 => ?_) (fun h34 => ?_)
      · refine jr.aload_n rfl rfl ?_
        refine jr.getf (i := 4) (x := v2) (v := .int (Int32.ofInt (v2))) rfl rfl (Nat.lt_trans (kx_18 k_t).1 (by decide)) (kx_18 k_t).2 (by decide) rfl rfl e2 rfl ?_
        refine jr.if_eq rfl rfl (by omega) (fun h48 => ?_) (fun h48 => ?_)
        · refine jr.iconst rfl ?_
          exact jr.ireturn rfl rfl rfl (q _ _ hC_M1 ht_M1 (by omega) (by have hq0 : M1 t 4 = v2 := e2; have hq1 : M1 t 5 = v3 := e3; have hq2 : M1 t 6 = v4 := e4; exact Or.elim (show N < y + 1 ∨ y + 1 ≤ N by omega) (fun hc => Or.inl ⟨hc, by omega, by omega, by omega, by omega⟩) (fun hc => Or.inr ((Classical.em ((x = 2 ∧ hb f N y / 16 ≠ 4) ∨ (x = 3 ∧ hb f N y / 16 ≠ 6))).elim (fun hd => Or.inl ⟨hc, hd, by omega, by omega, by omega, by omega⟩) (fun hd => Or.inr ⟨hc, hd, by omega, by omega, by omega, by omega⟩)))))
        · refine jr.iconst rfl ?_
          refine jr.goto rfl rfl ?_
          exact jr.ireturn rfl rfl rfl (q _ _ hC_M1 ht_M1 (by omega) (by have hq0 : M1 t 4 = v2 := e2; have hq1 : M1 t 5 = v3 := e3; have hq2 : M1 t 6 = v4 := e4; exact Or.elim (show N < y + 1 ∨ y + 1 ≤ N by omega) (fun hc => Or.inl ⟨hc, by omega, by omega, by omega, by omega⟩) (fun hc => Or.inr ((Classical.em ((x = 2 ∧ hb f N y / 16 ≠ 4) ∨ (x = 3 ∧ hb f N y / 16 ≠ 6))).elim (fun hd => Or.inl ⟨hc, hd, by omega, by omega, by omega, by omega⟩) (fun hd => Or.inr ⟨hc, hd, by omega, by omega, by omega, by omega⟩)))))
      · refine jr.aload_n rfl rfl ?_
        refine jr.iconst rfl ?_
        refine jr.iload_n rfl rfl ?_
        refine jr.iload_n rfl rfl ?_
        refine jr_v rfl rfl (Or.inl rfl) rfl rfl (Nat.lt_trans (kx_18 k_t).1 (by decide)) (kx_18 k_t).2 ⟨rfl, Nat.le_of_ble_eq_true rfl, Nat.le_of_ble_eq_true rfl⟩ rfl (jc.deep (c_Headers_find_x hC_M1 (FR.rfl _ M1) k_t (by omega) (by omega) (by omega) (fun M10 hC_M10 hf_M10 w10_0 w10_1 w10_2 => ?_)) (by decide))
        have ht_M10 : FR W_c_Headers_isOtherVersion_x T M10 := FR.t ht_M1 hf_M10 (kw_sub rfl)
        have b11 : (-2147483648) ≤ 3 ∧ 3 ≤ 2147483647 := by omega
        have b12 : (-2147483648) ≤ y ∧ y ≤ 2147483647 := by omega
        have b13 : (-2147483648) ≤ x ∧ x ≤ 2147483647 := by omega
        refine jr.aload_n rfl rfl ?_
        refine jr.getf (i := 4) (x := 3) (v := .int (Int32.ofInt (3))) rfl rfl (Nat.lt_trans (kx_18 k_t).1 (by decide)) (kx_18 k_t).2 (by decide) rfl rfl w10_0 rfl ?_
        refine jr.if_eq rfl rfl (by omega) (fun h48 => ?_) (fun h48 => ?_)
        · refine jr.iconst rfl ?_
          exact jr.ireturn rfl rfl rfl (q _ _ hC_M10 ht_M10 (by omega) (by have hq0 : M10 t 4 = 3 := w10_0; have hq1 : M10 t 5 = y := w10_1; have hq2 : M10 t 6 = x := w10_2; exact Or.elim (show N < y + 1 ∨ y + 1 ≤ N by omega) (fun hc => Or.inl ⟨hc, by omega, by omega, by omega, by omega⟩) (fun hc => Or.inr ((Classical.em ((x = 2 ∧ hb f N y / 16 ≠ 4) ∨ (x = 3 ∧ hb f N y / 16 ≠ 6))).elim (fun hd => Or.inl ⟨hc, hd, by omega, by omega, by omega, by omega⟩) (fun hd => Or.inr ⟨hc, hd, by omega, by omega, by omega, by omega⟩)))))
        · refine jr.iconst rfl ?_
          refine jr.goto rfl rfl ?_
          exact jr.ireturn rfl rfl rfl (q _ _ hC_M10 ht_M10 (by omega) (by have hq0 : M10 t 4 = 3 := w10_0; have hq1 : M10 t 5 = y := w10_1; have hq2 : M10 t 6 = x := w10_2; exact Or.elim (show N < y + 1 ∨ y + 1 ≤ N by omega) (fun hc => Or.inl ⟨hc, by omega, by omega, by omega, by omega⟩) (fun hc => Or.inr ((Classical.em ((x = 2 ∧ hb f N y / 16 ≠ 4) ∨ (x = 3 ∧ hb f N y / 16 ≠ 6))).elim (fun hd => Or.inl ⟨hc, hd, by omega, by omega, by omega, by omega⟩) (fun hd => Or.inr ⟨hc, hd, by omega, by omega, by omega, by omega⟩)))))
    · refine jr.iconst rfl ?_
      refine jr.goto rfl rfl ?_
      refine jr.icmp_eq rfl rfl (by omega) (by omega) (fun h34 => ?_) (fun h34 => ?_)
      · refine jr.aload_n rfl rfl ?_
        refine jr.getf (i := 4) (x := v2) (v := .int (Int32.ofInt (v2))) rfl rfl (Nat.lt_trans (kx_18 k_t).1 (by decide)) (kx_18 k_t).2 (by decide) rfl rfl e2 rfl ?_
        refine jr.if_eq rfl rfl (by omega) (fun h48 => ?_) (fun h48 => ?_)
        · refine jr.iconst rfl ?_
          exact jr.ireturn rfl rfl rfl (q _ _ hC_M1 ht_M1 (by omega) (by have hq0 : M1 t 4 = v2 := e2; have hq1 : M1 t 5 = v3 := e3; have hq2 : M1 t 6 = v4 := e4; exact Or.elim (show N < y + 1 ∨ y + 1 ≤ N by omega) (fun hc => Or.inl ⟨hc, by omega, by omega, by omega, by omega⟩) (fun hc => Or.inr ((Classical.em ((x = 2 ∧ hb f N y / 16 ≠ 4) ∨ (x = 3 ∧ hb f N y / 16 ≠ 6))).elim (fun hd => Or.inl ⟨hc, hd, by omega, by omega, by omega, by omega⟩) (fun hd => Or.inr ⟨hc, hd, by omega, by omega, by omega, by omega⟩)))))
        · refine jr.iconst rfl ?_
          refine jr.goto rfl rfl ?_
          exact jr.ireturn rfl rfl rfl (q _ _ hC_M1 ht_M1 (by omega) (by have hq0 : M1 t 4 = v2 := e2; have hq1 : M1 t 5 = v3 := e3; have hq2 : M1 t 6 = v4 := e4; exact Or.elim (show N < y + 1 ∨ y + 1 ≤ N by omega) (fun hc => Or.inl ⟨hc, by omega, by omega, by omega, by omega⟩) (fun hc => Or.inr ((Classical.em ((x = 2 ∧ hb f N y / 16 ≠ 4) ∨ (x = 3 ∧ hb f N y / 16 ≠ 6))).elim (fun hd => Or.inl ⟨hc, hd, by omega, by omega, by omega, by omega⟩) (fun hd => Or.inr ⟨hc, hd, by omega, by omega, by omega, by omega⟩)))))
      · refine jr.aload_n rfl rfl ?_
        refine jr.iconst rfl ?_
        refine jr.iload_n rfl rfl ?_
        refine jr.iload_n rfl rfl ?_
        refine jr_v rfl rfl (Or.inl rfl) rfl rfl (Nat.lt_trans (kx_18 k_t).1 (by decide)) (kx_18 k_t).2 ⟨rfl, Nat.le_of_ble_eq_true rfl, Nat.le_of_ble_eq_true rfl⟩ rfl (jc.deep (c_Headers_find_x hC_M1 (FR.rfl _ M1) k_t (by omega) (by omega) (by omega) (fun M14 hC_M14 hf_M14 w14_0 w14_1 w14_2 => ?_)) (by decide))
        have ht_M14 : FR W_c_Headers_isOtherVersion_x T M14 := FR.t ht_M1 hf_M14 (kw_sub rfl)
        have b15 : (-2147483648) ≤ 3 ∧ 3 ≤ 2147483647 := by omega
        have b16 : (-2147483648) ≤ y ∧ y ≤ 2147483647 := by omega
        have b17 : (-2147483648) ≤ x ∧ x ≤ 2147483647 := by omega
        refine jr.aload_n rfl rfl ?_
        refine jr.getf (i := 4) (x := 3) (v := .int (Int32.ofInt (3))) rfl rfl (Nat.lt_trans (kx_18 k_t).1 (by decide)) (kx_18 k_t).2 (by decide) rfl rfl w14_0 rfl ?_
        refine jr.if_eq rfl rfl (by omega) (fun h48 => ?_) (fun h48 => ?_)
        · refine jr.iconst rfl ?_
          exact jr.ireturn rfl rfl rfl (q _ _ hC_M14 ht_M14 (by omega) (by have hq0 : M14 t 4 = 3 := w14_0; have hq1 : M14 t 5 = y := w14_1; have hq2 : M14 t 6 = x := w14_2; exact Or.elim (show N < y + 1 ∨ y + 1 ≤ N by omega) (fun hc => Or.inl ⟨hc, by omega, by omega, by omega, by omega⟩) (fun hc => Or.inr ((Classical.em ((x = 2 ∧ hb f N y / 16 ≠ 4) ∨ (x = 3 ∧ hb f N y / 16 ≠ 6))).elim (fun hd => Or.inl ⟨hc, hd, by omega, by omega, by omega, by omega⟩) (fun hd => Or.inr ⟨hc, hd, by omega, by omega, by omega, by omega⟩)))))
        · refine jr.iconst rfl ?_
          refine jr.goto rfl rfl ?_
          exact jr.ireturn rfl rfl rfl (q _ _ hC_M14 ht_M14 (by omega) (by have hq0 : M14 t 4 = 3 := w14_0; have hq1 : M14 t 5 = y := w14_1; have hq2 : M14 t 6 = x := w14_2; exact Or.elim (show N < y + 1 ∨ y + 1 ≤ N by omega) (fun hc => Or.inl ⟨hc, by omega, by omega, by omega, by omega⟩) (fun hc => Or.inr ((Classical.em ((x = 2 ∧ hb f N y / 16 ≠ 4) ∨ (x = 3 ∧ hb f N y / 16 ≠ 6))).elim (fun hd => Or.inl ⟨hc, hd, by omega, by omega, by omega, by omega⟩) (fun hd => Or.inr ⟨hc, hd, by omega, by omega, by omega, by omega⟩)))))
  · have sx8 : (1 : Int) ≤ r1 := by omega
    refine jr.iconst rfl ?_
    exact jr.ireturn rfl rfl rfl (q _ _ hC_M1 ht_M1 (by omega) (by have hq0 : M1 t 4 = v2 := e2; have hq1 : M1 t 5 = v3 := e3; have hq2 : M1 t 6 = v4 := e4; exact Or.elim (show N < y + 1 ∨ y + 1 ≤ N by omega) (fun hc => Or.inl ⟨hc, by omega, by omega, by omega, by omega⟩) (fun hc => Or.inr ((Classical.em ((x = 2 ∧ hb f N y / 16 ≠ 4) ∨ (x = 3 ∧ hb f N y / 16 ≠ 6))).elim (fun hd => Or.inl ⟨hc, hd, by omega, by omega, by omega, by omega⟩) (fun hd => Or.inr ⟨hc, hd, by omega, by omega, by omega, by omega⟩)))))
theorem c_Headers_isMisplaced_x {A : Nat → Option (Nat × (Nat → Int32))} {Q : Option Value → jm → Prop} {M : jm} (hC_M : CI M) {t : Nat} (k_t : kd t = 18) {x : Int} (h_x : 0 ≤ x ∧ x ≤ 11) {C : Int} (g_C : M t 3 = C) (q : ∀ (r : Int), 0 ≤ r ∧ r ≤ 1 → ((r = 1 ∧ ((x = 4 ∧ bkf (M (t + 1)) C ≠ 3) ∨ ((x = 6 ∨ x = 5) ∧ bkf (M (t + 1)) C ≠ 3 ∧ bkf (M (t + 1)) C ≠ 4 ∧ bkf (M (t + 1)) C ≠ 5))) ∨ (r = 0 ∧ ¬ ((x = 4 ∧ bkf (M (t + 1)) C ≠ 3) ∨ ((x = 6 ∨ x = 5) ∧ bkf (M (t + 1)) C ≠ 3 ∧ bkf (M (t + 1)) C ≠ 4 ∧ bkf (M (t + 1)) C ≠ 5)))) → Q (some (.int (Int32.ofInt r))) M) : jc A 2 128 [.ref (t), .int (Int32.ofInt (x))] M Q := by
  refine jc_of (m := xm_128) rfl (Nat.le_of_ble_eq_true rfl) rfl ?_
  have b_C : 0 ≤ C ∧ C ≤ 12 := by rw [← g_C]; exact (CI.r hC_M k_t (by decide) 3)
  refine jr.aload_n rfl rfl ?_
  refine jr.aload_n rfl rfl ?_
  refine jr.getf (i := 3) (x := C) (v := .int (Int32.ofInt (C))) rfl rfl (Nat.lt_trans (kx_18 k_t).1 (by decide)) (kx_18 k_t).2 (by decide) rfl rfl g_C rfl ?_
  refine jr.iconst rfl ?_
  refine jr.isub rfl ?_
  refine jr_v rfl rfl (Or.inl rfl) rfl rfl (Nat.lt_trans (kx_18 k_t).1 (by decide)) (kx_18 k_t).2 ⟨rfl, Nat.le_of_ble_eq_true rfl, Nat.le_of_ble_eq_true rfl⟩ rfl (jc.deep (c_Headers_kindAt hC_M k_t (by omega) (fun r1 z1 w1_0 w1_1 => ?_)) (by decide))
  refine jr.istore_n rfl (by decide) rfl ?_
  refine jr.iload_n rfl rfl ?_
  refine jr.iconst rfl ?_
  refine jr.icmp_ne rfl rfl (by omega) (by omega) (fun h13 => ?_) (fun h13 => ?_)
  · refine jr.iload_n rfl rfl ?_
    refine jr.bipush rfl (by decide) ?_
    refine jr.icmp_eq rfl rfl (by omega) (by omega) (fun h30 => ?_) (fun h30 => ?_)
    · refine jr.iload_n rfl rfl ?_
      refine jr.iconst rfl ?_
      refine jr.icmp_eq rfl rfl (by omega) (by omega) (fun h40 => ?_) (fun h40 => ?_)
      · refine jr.iconst rfl ?_
        exact jr.ireturn rfl rfl rfl (q _ (by omega) (by have hbk : bkf (M (t + 1)) C = r1 := (by unfold bkf; split <;> omega); rw [hbk]; omega))
      · refine jr.iload_n rfl rfl ?_
        refine jr.iconst rfl ?_
        refine jr.icmp_eq rfl rfl (by omega) (by omega) (fun h45 => ?_) (fun h45 => ?_)
        · refine jr.iconst rfl ?_
          exact jr.ireturn rfl rfl rfl (q _ (by omega) (by have hbk : bkf (M (t + 1)) C = r1 := (by unfold bkf; split <;> omega); rw [hbk]; omega))
        · refine jr.iload_n rfl rfl ?_
          refine jr.iconst rfl ?_
          refine jr.icmp_eq rfl rfl (by omega) (by omega) (fun h50 => ?_) (fun h50 => ?_)
          · refine jr.iconst rfl ?_
            exact jr.ireturn rfl rfl rfl (q _ (by omega) (by have hbk : bkf (M (t + 1)) C = r1 := (by unfold bkf; split <;> omega); rw [hbk]; omega))
          · refine jr.iconst rfl ?_
            refine jr.goto rfl rfl ?_
            exact jr.ireturn rfl rfl rfl (q _ (by omega) (by have hbk : bkf (M (t + 1)) C = r1 := (by unfold bkf; split <;> omega); rw [hbk]; omega))
    · refine jr.iload_n rfl rfl ?_
      refine jr.iconst rfl ?_
      refine jr.icmp_ne rfl rfl (by omega) (by omega) (fun h35 => ?_) (fun h35 => ?_)
      · refine jr.iconst rfl ?_
        exact jr.ireturn rfl rfl rfl (q _ (by omega) (by have hbk : bkf (M (t + 1)) C = r1 := (by unfold bkf; split <;> omega); rw [hbk]; omega))
      · refine jr.iload_n rfl rfl ?_
        refine jr.iconst rfl ?_
        refine jr.icmp_eq rfl rfl (by omega) (by omega) (fun h40 => ?_) (fun h40 => ?_)
        · refine jr.iconst rfl ?_
          exact jr.ireturn rfl rfl rfl (q _ (by omega) (by have hbk : bkf (M (t + 1)) C = r1 := (by unfold bkf; split <;> omega); rw [hbk]; omega))
        · refine jr.iload_n rfl rfl ?_
          refine jr.iconst rfl ?_
          refine jr.icmp_eq rfl rfl (by omega) (by omega) (fun h45 => ?_) (fun h45 => ?_)
          · refine jr.iconst rfl ?_
            exact jr.ireturn rfl rfl rfl (q _ (by omega) (by have hbk : bkf (M (t + 1)) C = r1 := (by unfold bkf; split <;> omega); rw [hbk]; omega))
          · refine jr.iload_n rfl rfl ?_
            refine jr.iconst rfl ?_
            refine jr.icmp_eq rfl rfl (by omega) (by omega) (fun h50 => ?_) (fun h50 => ?_)
            · refine jr.iconst rfl ?_
              exact jr.ireturn rfl rfl rfl (q _ (by omega) (by have hbk : bkf (M (t + 1)) C = r1 := (by unfold bkf; split <;> omega); rw [hbk]; omega))
            · refine jr.iconst rfl ?_
              refine jr.goto rfl rfl ?_
              exact jr.ireturn rfl rfl rfl (q _ (by omega) (by have hbk : bkf (M (t + 1)) C = r1 := (by unfold bkf; split <;> omega); rw [hbk]; omega))
  · refine jr.iload_n rfl rfl ?_
    refine jr.iconst rfl ?_
    refine jr.icmp_eq rfl rfl (by omega) (by omega) (fun h18 => ?_) (fun h18 => ?_)
    · refine jr.iconst rfl ?_
      exact jr.ireturn rfl rfl rfl (q _ (by omega) (by have hbk : bkf (M (t + 1)) C = r1 := (by unfold bkf; split <;> omega); rw [hbk]; omega))
    · refine jr.iconst rfl ?_
      refine jr.goto rfl rfl ?_
      exact jr.ireturn rfl rfl rfl (q _ (by omega) (by have hbk : bkf (M (t + 1)) C = r1 := (by unfold bkf; split <;> omega); rw [hbk]; omega))
noncomputable def W_c_Headers_checkTold_x : List (Nat × Nat) := [(18, 4), (18, 5), (18, 6)]
theorem c_Headers_checkTold_x {A : Nat → Option (Nat × (Nat → Int32))} {Q : Option Value → jm → Prop} {f : Int → Int} {T : jm} {M : jm} (hC_M : CI M) (ht_M : FR W_c_Headers_checkTold_x T M) {t : Nat} (k_t : kd t = 18) {x : Int} (h_x : 0 ≤ x ∧ x ≤ 11) {y : Int} (h_y : 0 ≤ y ∧ y ≤ 400) {S : Int} (g_S : M t 7 = S) {N : Int} (g_N : M ((S.toNat)) 1 = N) {F : Int} (g_F : M t 4 = F) {G : Int} (g_G : M t 5 = G) {H : Int} (g_H : M t 6 = H) (p0 : BY8 M (S.toNat + 1) f) (p1 : (x ≠ 2 ∨ y + 20 ≤ N) ∧ (x ≠ 3 ∨ y + 24 ≤ N) ∧ (x ≠ 9 ∨ y + 8 ≤ N)) (q : ∀ (M' : jm), CI M' → FR W_c_Headers_checkTold_x T M' → ((((x = 2 ∧ tw f (y + 2) ≠ N - y) ∨ (x = 3 ∧ tw f (y + 2) ≠ N - y - 24) ∨ (x = 9 ∧ tw f (y + 4) ≠ N - y)) ∧ M' t 4 = 5 ∧ ((x = 9 ∧ M' t 5 = y + 4) ∨ (x ≠ 9 ∧ M' t 5 = y + 2)) ∧ M' t 6 = x) ∨ (¬ ((x = 2 ∧ tw f (y + 2) ≠ N - y) ∨ (x = 3 ∧ tw f (y + 2) ≠ N - y - 24) ∨ (x = 9 ∧ tw f (y + 4) ≠ N - y)) ∧ M' t 4 = F ∧ M' t 5 = G ∧ M' t 6 = H)) → Q none M') : jc A 3 131 [.ref (t), .int (Int32.ofInt (x)), .int (Int32.ofInt (y))] M Q := by
  refine jc_of (m := xm_131) rfl (Nat.le_of_ble_eq_true rfl) rfl ?_
  have k_S : kd S.toNat = 33 := (congrArg (fun z : Int => kd z.toNat) g_S).symm.trans (CI.x hC_M k_t 7 rfl (by decide))
  have b_N : (-1) ≤ N ∧ N ≤ 400 := by rw [← g_N]; exact (CI.r hC_M k_S (by decide) 1)
  have b_F : (-2147483648) ≤ F ∧ F ≤ 2147483647 := by rw [← g_F]; exact (CI.r hC_M k_t (by decide) 4)
  have b_G : (-2147483648) ≤ G ∧ G ≤ 2147483647 := by rw [← g_G]; exact (CI.r hC_M k_t (by decide) 5)
  have b_H : (-2147483648) ≤ H ∧ H ≤ 2147483647 := by rw [← g_H]; exact (CI.r hC_M k_t (by decide) 6)
  have k_by : kd (S.toNat + 1) = 34 := (kf_33_0 k_S).2
  refine jr.aload_n rfl rfl ?_
  refine jr.getf (i := 7) (x := S) (v := .ref (S.toNat)) rfl rfl (Nat.lt_trans (kx_18 k_t).1 (by decide)) (kx_18 k_t).2 (by decide) rfl rfl g_S (jval_mut rfl (kn_18_7 k_t)) ?_
  refine jr.getf (i := 1) (x := N) (v := .int (Int32.ofInt (N))) rfl rfl (Nat.lt_trans (kx_33 k_S).1 (by decide)) (kx_33 k_S).2 (by decide) rfl rfl g_N rfl ?_
  refine jr.iload_n rfl rfl ?_
  refine jr.isub rfl ?_
  refine jr.istore_n rfl (by decide) rfl ?_
  refine jr.iload_n rfl rfl ?_
  refine jr.iconst rfl ?_
  refine jr.icmp_ne rfl rfl (by omega) (by omega) (fun h12 => ?_) (fun h12 => ?_)
  · refine jr.iload_n rfl rfl ?_
    refine jr.iconst rfl ?_
    refine jr.icmp_ne rfl rfl (by omega) (by omega) (fun h46 => ?_) (fun h46 => ?_)
    · refine jr.iload_n rfl rfl ?_
      refine jr.bipush rfl (by decide) ?_
      refine jr.icmp_ne rfl rfl (by omega) (by omega) (fun h84 => ?_) (fun h84 => ?_)
      · exact jr.vreturn rfl rfl (q _ hC_M ht_M  (by have hq0 : M t 4 = F := g_F; have hq1 : M t 5 = G := g_G; have hq2 : M t 6 = H := g_H; omega))
      · refine jr.aload_n rfl rfl ?_
        refine jr.getf (i := 7) (x := S) (v := .ref (S.toNat)) rfl rfl (Nat.lt_trans (kx_18 k_t).1 (by decide)) (kx_18 k_t).2 (by decide) rfl rfl g_S (jval_mut rfl (kn_18_7 k_t)) ?_
        refine jr.iload_n rfl rfl ?_
        refine jr.iconst rfl ?_
        refine jr.iadd rfl ?_
        refine jr.iconst rfl ?_
        refine jr_v rfl rfl (Or.inl rfl) rfl rfl (Nat.lt_trans (kx_33 k_S).1 (by decide)) (kx_33 k_S).2 ⟨rfl, Nat.le_of_ble_eq_true rfl, Nat.le_of_ble_eq_true rfl⟩ rfl (jc.deep (c_Packet_numberFrom_h hC_M k_S (by omega) p0 (fun r3 z3 w3_0 => ?_)) (by decide))
        refine jr.iload_n rfl rfl ?_
        refine jr.i2l rfl (by omega) ?_
        refine jr.lcmp_eq rfl rfl rfl (by omega) (by omega) (fun h100 => ?_) (fun h100 => ?_)
        · exact jr.vreturn rfl rfl (q _ hC_M ht_M  (by have hq0 : M t 4 = F := g_F; have hq1 : M t 5 = G := g_G; have hq2 : M t 6 = H := g_H; omega))
        · refine jr.aload_n rfl rfl ?_
          refine jr.iconst rfl ?_
          refine jr.iload_n rfl rfl ?_
          refine jr.iconst rfl ?_
          refine jr.iadd rfl ?_
          refine jr.iload_n rfl rfl ?_
          refine jr_v rfl rfl (Or.inl rfl) rfl rfl (Nat.lt_trans (kx_18 k_t).1 (by decide)) (kx_18 k_t).2 ⟨rfl, Nat.le_of_ble_eq_true rfl, Nat.le_of_ble_eq_true rfl⟩ rfl (jc.deep (c_Headers_find_x hC_M (FR.rfl _ M) k_t (by omega) (by omega) (by omega) (fun M4 hC_M4 hf_M4 w4_0 w4_1 w4_2 => ?_)) (by decide))
          have ht_M4 : FR W_c_Headers_checkTold_x T M4 := FR.t ht_M hf_M4 (kw_sub rfl)
          have b5 : (-2147483648) ≤ 5 ∧ 5 ≤ 2147483647 := by omega
          have b6 : (-2147483648) ≤ y + 4 ∧ y + 4 ≤ 2147483647 := by omega
          have b7 : (-2147483648) ≤ x ∧ x ≤ 2147483647 := by omega
          exact jr.vreturn rfl rfl (q _ hC_M4 ht_M4  (by have hq0 : M4 t 4 = 5 := w4_0; have hq1 : M4 t 5 = y + 4 := w4_1; have hq2 : M4 t 6 = x := w4_2; omega))
    · refine jr.aload_n rfl rfl ?_
      refine jr.getf (i := 7) (x := S) (v := .ref (S.toNat)) rfl rfl (Nat.lt_trans (kx_18 k_t).1 (by decide)) (kx_18 k_t).2 (by decide) rfl rfl g_S (jval_mut rfl (kn_18_7 k_t)) ?_
      refine jr.iload_n rfl rfl ?_
      refine jr.iconst rfl ?_
      refine jr.iadd rfl ?_
      refine jr.iconst rfl ?_
      refine jr_v rfl rfl (Or.inl rfl) rfl rfl (Nat.lt_trans (kx_33 k_S).1 (by decide)) (kx_33 k_S).2 ⟨rfl, Nat.le_of_ble_eq_true rfl, Nat.le_of_ble_eq_true rfl⟩ rfl (jc.deep (c_Packet_numberFrom_h hC_M k_S (by omega) p0 (fun r9 z9 w9_0 => ?_)) (by decide))
      refine jr.iload_n rfl rfl ?_
      refine jr.bipush rfl (by decide) ?_
      refine jr.isub rfl ?_
      refine jr.i2l rfl (by omega) ?_
      refine jr.lcmp_eq rfl rfl rfl (by omega) (by omega) (fun h65 => ?_) (fun h65 => ?_)
      · refine jr.iload_n rfl rfl ?_
        refine jr.bipush rfl (by decide) ?_
        refine jr.icmp_ne rfl rfl (by omega) (by omega) (fun h84 => ?_) (fun h84 => ?_)
        · exact jr.vreturn rfl rfl (q _ hC_M ht_M  (by have hq0 : M t 4 = F := g_F; have hq1 : M t 5 = G := g_G; have hq2 : M t 6 = H := g_H; omega))
        · exact absurd (by omega) h84
      · refine jr.aload_n rfl rfl ?_
        refine jr.iconst rfl ?_
        refine jr.iload_n rfl rfl ?_
        refine jr.iconst rfl ?_
        refine jr.iadd rfl ?_
        refine jr.iload_n rfl rfl ?_
        refine jr_v rfl rfl (Or.inl rfl) rfl rfl (Nat.lt_trans (kx_18 k_t).1 (by decide)) (kx_18 k_t).2 ⟨rfl, Nat.le_of_ble_eq_true rfl, Nat.le_of_ble_eq_true rfl⟩ rfl (jc.deep (c_Headers_find_x hC_M (FR.rfl _ M) k_t (by omega) (by omega) (by omega) (fun M10 hC_M10 hf_M10 w10_0 w10_1 w10_2 => ?_)) (by decide))
        have ht_M10 : FR W_c_Headers_checkTold_x T M10 := FR.t ht_M hf_M10 (kw_sub rfl)
        have b11 : (-2147483648) ≤ 5 ∧ 5 ≤ 2147483647 := by omega
        have b12 : (-2147483648) ≤ y + 2 ∧ y + 2 ≤ 2147483647 := by omega
        have b13 : (-2147483648) ≤ x ∧ x ≤ 2147483647 := by omega
        refine jr.goto rfl rfl ?_
        exact jr.vreturn rfl rfl (q _ hC_M10 ht_M10  (by have hq0 : M10 t 4 = 5 := w10_0; have hq1 : M10 t 5 = y + 2 := w10_1; have hq2 : M10 t 6 = x := w10_2; omega))
  · refine jr.aload_n rfl rfl ?_
    refine jr.getf (i := 7) (x := S) (v := .ref (S.toNat)) rfl rfl (Nat.lt_trans (kx_18 k_t).1 (by decide)) (kx_18 k_t).2 (by decide) rfl rfl g_S (jval_mut rfl (kn_18_7 k_t)) ?_
    refine jr.iload_n rfl rfl ?_
    refine jr.iconst rfl ?_
    refine jr.iadd rfl ?_
    refine jr.iconst rfl ?_
    refine jr_v rfl rfl (Or.inl rfl) rfl rfl (Nat.lt_trans (kx_33 k_S).1 (by decide)) (kx_33 k_S).2 ⟨rfl, Nat.le_of_ble_eq_true rfl, Nat.le_of_ble_eq_true rfl⟩ rfl (jc.deep (c_Packet_numberFrom_h hC_M k_S (by omega) p0 (fun r15 z15 w15_0 => ?_)) (by decide))
    refine jr.iload_n rfl rfl ?_
    refine jr.i2l rfl (by omega) ?_
    refine jr.lcmp_eq rfl rfl rfl (by omega) (by omega) (fun h28 => ?_) (fun h28 => ?_)
    · refine jr.iload_n rfl rfl ?_
      refine jr.iconst rfl ?_
      refine jr.icmp_ne rfl rfl (by omega) (by omega) (fun h46 => ?_) (fun h46 => ?_)
      · refine jr.iload_n rfl rfl ?_
        refine jr.bipush rfl (by decide) ?_
        refine jr.icmp_ne rfl rfl (by omega) (by omega) (fun h84 => ?_) (fun h84 => ?_)
        · exact jr.vreturn rfl rfl (q _ hC_M ht_M  (by have hq0 : M t 4 = F := g_F; have hq1 : M t 5 = G := g_G; have hq2 : M t 6 = H := g_H; omega))
        · exact absurd (by omega) h84
      · exact absurd (by omega) h46
    · refine jr.aload_n rfl rfl ?_
      refine jr.iconst rfl ?_
      refine jr.iload_n rfl rfl ?_
      refine jr.iconst rfl ?_
      refine jr.iadd rfl ?_
      refine jr.iload_n rfl rfl ?_
      refine jr_v rfl rfl (Or.inl rfl) rfl rfl (Nat.lt_trans (kx_18 k_t).1 (by decide)) (kx_18 k_t).2 ⟨rfl, Nat.le_of_ble_eq_true rfl, Nat.le_of_ble_eq_true rfl⟩ rfl (jc.deep (c_Headers_find_x hC_M (FR.rfl _ M) k_t (by omega) (by omega) (by omega) (fun M16 hC_M16 hf_M16 w16_0 w16_1 w16_2 => ?_)) (by decide))
      have ht_M16 : FR W_c_Headers_checkTold_x T M16 := FR.t ht_M hf_M16 (kw_sub rfl)
      have b17 : (-2147483648) ≤ 5 ∧ 5 ≤ 2147483647 := by omega
      have b18 : (-2147483648) ≤ y + 2 ∧ y + 2 ≤ 2147483647 := by omega
      have b19 : (-2147483648) ≤ x ∧ x ≤ 2147483647 := by omega
      refine jr.goto rfl rfl ?_
      exact jr.vreturn rfl rfl (q _ hC_M16 ht_M16  (by have hq0 : M16 t 4 = 5 := w16_0; have hq1 : M16 t 5 = y + 2 := w16_1; have hq2 : M16 t 6 = x := w16_2; omega))
end
section
/-! ===== headers: a step, whole ===== -/
theorem hls_v (x : Int) : (x ≠ 2 ∨ hls x = 20) ∧ (x ≠ 3 ∨ hls x = 24) ∧ (x ≠ 9 ∨ hls x = 8) := by
  unfold hls
  (repeat' split) <;> omega
theorem hsF_e {f : Int → Int} {n c bk k a : Int} (h : c < 12 ∧ ¬ ((k = 4 ∧ bk ≠ 3) ∨ ((k = 6 ∨ k = 5) ∧ bk ≠ 3 ∧ bk ≠ 4 ∧ bk ≠ 5)) ∧ ¬ ((k = 2 ∨ k = 3) ∧ n < a + 1) ∧ ¬ ((k = 2 ∧ hb f n a / 16 ≠ 4) ∨ (k = 3 ∧ hb f n a / 16 ≠ 6)) ∧ 0 ≤ n) (h2 : a + hls k ≤ n) (h3 : ¬ ((k = 2 ∨ k = 8) ∧ hsZ f n k a < 20)) (h4 : a + hsZ f n k a ≤ n) : hsF f n c bk k a = (if ((k = 2 ∧ tw f (a + 2) ≠ n - a) ∨ (k = 3 ∧ tw f (a + 2) ≠ n - a - 24) ∨ (k = 9 ∧ tw f (a + 4) ≠ n - a)) then 5 else 0) ∧ hsW f n c bk k a = (if k = 9 then a + 4 else a + 2) := by
  obtain ⟨g0, g1, g2, g3, g4⟩ := h
  have c0 : ¬ 12 ≤ c := by omega
  have c4 : ¬ n < a + hls k := by omega
  have c6 : ¬ n < a + hsZ f n k a := by omega
  refine ⟨?_, ?_⟩
  · unfold hsF
    rw [if_neg c0, if_neg g1, if_neg g2, if_neg g3, if_neg c4, if_neg h3, if_neg c6]
  · unfold hsW
    rw [if_neg c0, if_neg g1, if_neg g2, if_neg g3, if_neg c4, if_neg h3, if_neg c6]
theorem c_PacketWall_isNetKind_x {A : Nat → Option (Nat × (Nat → Int32))} {Q : Option Value → jm → Prop} {M : jm} (hC_M : CI M) {x : Int} (h_x : (-2147483648) ≤ x ∧ x ≤ 2147483647) (q : ∀ (r : Int), 0 ≤ r ∧ r ≤ 1 → (r = 0 ∨ (2 ≤ x ∧ x ≤ 3)) → ((r = 1 ∧ (x = 2 ∨ x = 3)) ∨ (r = 0 ∧ x ≠ 2 ∧ x ≠ 3)) → Q (some (.int (Int32.ofInt r))) M) : jc A 1 50 [.int (Int32.ofInt (x))] M Q := by
  refine jc_of (m := xm_50) rfl (Nat.le_of_ble_eq_true rfl) rfl ?_
  refine jr.iload_n rfl rfl ?_
  refine jr.iconst rfl ?_
  refine jr.icmp_eq rfl rfl (by omega) (by omega) (fun h2 => ?_) (fun h2 => ?_)
  · refine jr.iconst rfl ?_
    refine jr.goto rfl rfl ?_
    exact jr.ireturn rfl rfl rfl (q _ (by omega) (by omega) (by omega))
  · refine jr.iload_n rfl rfl ?_
    refine jr.iconst rfl ?_
    refine jr.icmp_ne rfl rfl (by omega) (by omega) (fun h7 => ?_) (fun h7 => ?_)
    · refine jr.iconst rfl ?_
      exact jr.ireturn rfl rfl rfl (q _ (by omega) (by omega) (by omega))
    · refine jr.iconst rfl ?_
      refine jr.goto rfl rfl ?_
      exact jr.ireturn rfl rfl rfl (q _ (by omega) (by omega) (by omega))
noncomputable def W_c_Headers_sizeIfRight_x : List (Nat × Nat) := [(18, 4), (18, 5), (18, 6)]
theorem c_Headers_sizeIfRight_x_L116 {A : Nat → Option (Nat × (Nat → Int32))} {Q : Option Value → jm → Prop} {f : Int → Int} {T : jm} {t : Nat} (k_t : kd t = 18) {S : Int} {N : Int} {G : Int} {H : Int} {C : Int} {x : Int} {y : Int} (q : ∀ (r : Int) (M' : jm), CI M' → FR W_c_Headers_sizeIfRight_x T M' → (-401) ≤ r ∧ r ≤ 2048 → ((hsF f N C (bkf (T (t + 1)) C) x y ≠ 0 ∧ M' t 4 = hsF f N C (bkf (T (t + 1)) C) x y ∧ M' t 5 = hsW f N C (bkf (T (t + 1)) C) x y ∧ M' t 6 = x) ∨ (hsF f N C (bkf (T (t + 1)) C) x y = 0 ∧ M' t 4 = 0 ∧ r = hsZ f N x y ∧ M' t 5 = G ∧ M' t 6 = H)) → Q (some (.int (Int32.ofInt r))) M') : ∀ (nM : Nat) (M : jm) (w : Int), CI M → FR W_c_Headers_sizeIfRight_x T M → 0 ≤ x ∧ x ≤ 11 → 0 ≤ y ∧ y ≤ 400 → (-401) ≤ w ∧ w ≤ 2048 → M t 7 = S → M ((S.toNat)) 1 = N → (M t 4 = 0 ∧ M t 5 = G ∧ M t 6 = H) → (BY8 M (S.toNat + 1) f) → (C < 12 ∧ ¬ ((x = 4 ∧ bkf (T (t + 1)) C ≠ 3) ∨ ((x = 6 ∨ x = 5) ∧ bkf (T (t + 1)) C ≠ 3 ∧ bkf (T (t + 1)) C ≠ 4 ∧ bkf (T (t + 1)) C ≠ 5)) ∧ ¬ ((x = 2 ∨ x = 3) ∧ N < y + 1) ∧ ¬ ((x = 2 ∧ hb f N y / 16 ≠ 4) ∨ (x = 3 ∧ hb f N y / 16 ≠ 6)) ∧ 0 ≤ N) → (w = hsZ f N x y ∧ y + hls x ≤ N ∧ ¬ ((x = 2 ∨ x = 8) ∧ w < 20)) → ((x ≠ 2 ∨ hls x = 20) ∧ (x ≠ 3 ∨ hls x = 24) ∧ (x ≠ 9 ∨ hls x = 8)) → 0 ≤ nM → jr A 3 xm_127 116 [(1, .int (Int32.ofInt (x))), (2, .int (Int32.ofInt (y))), (3, .int (Int32.ofInt (w))), (0, .ref (t))] [] M Q := by
  intro nM
  induction nM using Nat.strongRecOn with
  | ind nM ih =>
    intro M w hC_M ht_M h_x h_y h_w g_S g_N hy0 hy1 hy2 hy3 hy4 hm
    have k_S : kd S.toNat = 33 := (congrArg (fun z : Int => kd z.toNat) g_S).symm.trans (CI.x hC_M k_t 7 rfl (by decide))
    have b_N : (-1) ≤ N ∧ N ≤ 400 := by rw [← g_N]; exact (CI.r hC_M k_S (by decide) 1)
    have k_by : kd (S.toNat + 1) = 34 := (kf_33_0 k_S).2
    obtain ⟨v1, e1⟩ : ∃ z_, M t 4 = z_ := ⟨_, rfl⟩
    have b1 : (-2147483648) ≤ v1 ∧ v1 ≤ 2147483647 := by rw [← e1]; exact (CI.r hC_M k_t (by decide) 4)
    obtain ⟨v2, e2⟩ : ∃ z_, M t 5 = z_ := ⟨_, rfl⟩
    have b2 : (-2147483648) ≤ v2 ∧ v2 ≤ 2147483647 := by rw [← e2]; exact (CI.r hC_M k_t (by decide) 5)
    obtain ⟨v3, e3⟩ : ∃ z_, M t 6 = z_ := ⟨_, rfl⟩
    have b3 : (-2147483648) ≤ v3 ∧ v3 ≤ 2147483647 := by rw [← e3]; exact (CI.r hC_M k_t (by decide) 6)
    refine jr.aload_n rfl rfl ?_
    refine jr.iload_n rfl rfl ?_
    refine jr.iload_n rfl rfl ?_
    refine jr.iload_n rfl rfl ?_
    refine jr.iadd rfl ?_
    have k4_S : kd (S).toNat = 33 := (congrArg (fun z : Int => kd z.toNat) g_S).symm.trans (CI.x hC_M k_t 7 rfl (by decide))
    refine jr_v rfl rfl (Or.inl rfl) rfl rfl (Nat.lt_trans (kx_18 k_t).1 (by decide)) (kx_18 k_t).2 ⟨rfl, Nat.le_of_ble_eq_true rfl, Nat.le_of_ble_eq_true rfl⟩ rfl (jc.deep (c_Headers_isCut_x hC_M (FR.rfl _ M) k_t (by omega) (by omega) g_S g_N e1 e2 e3 (fun r4 M4 hC_M4 hf_M4 z4 w4_0 => ?_)) (by decide))
    have ht_M4 : FR W_c_Headers_sizeIfRight_x T M4 := FR.t ht_M hf_M4 (kw_sub rfl)
    obtain ⟨v5, e5⟩ : ∃ z_, M4 t 4 = z_ := ⟨_, rfl⟩
    have b5 : (-2147483648) ≤ v5 ∧ v5 ≤ 2147483647 := by rw [← e5]; exact (CI.r hC_M4 k_t (by decide) 4)
    obtain ⟨v6, e6⟩ : ∃ z_, M4 t 5 = z_ := ⟨_, rfl⟩
    have b6 : (-2147483648) ≤ v6 ∧ v6 ≤ 2147483647 := by rw [← e6]; exact (CI.r hC_M4 k_t (by decide) 5)
    obtain ⟨v7, e7⟩ : ∃ z_, M4 t 6 = z_ := ⟨_, rfl⟩
    have b7 : (-2147483648) ≤ v7 ∧ v7 ≤ 2147483647 := by rw [← e7]; exact (CI.r hC_M4 k_t (by decide) 6)
    refine jr.if_eq rfl rfl (by omega) (fun h124 => ?_) (fun h124 => ?_)
    · refine jr.aload_n rfl rfl ?_
      refine jr.iload_n rfl rfl ?_
      refine jr.iload_n rfl rfl ?_
      have e9 : M4 t 7 = S := (hf_M4.g k_t rfl).trans g_S
      have k8_S : kd (S).toNat = 33 := (congrArg (fun z : Int => kd z.toNat) e9).symm.trans (CI.x hC_M4 k_t 7 rfl (by decide))
      have e10 : M4 ((S.toNat)) 1 = N := (hf_M4.g k8_S rfl).trans g_N
      refine jr_v rfl rfl (Or.inl rfl) rfl rfl (Nat.lt_trans (kx_18 k_t).1 (by decide)) (kx_18 k_t).2 ⟨rfl, Nat.le_of_ble_eq_true rfl, Nat.le_of_ble_eq_true rfl⟩ rfl (jc.deep (c_Headers_checkTold_x hC_M4 (FR.rfl _ M4) k_t (by omega) (by omega) e9 e10 e5 e6 e7 (BY8.fr hy1 k_by hf_M4 rfl) (by omega) (fun M8 hC_M8 hf_M8 w8_0 => ?_)) (by decide))
      have ht_M8 : FR W_c_Headers_sizeIfRight_x T M8 := FR.t ht_M4 hf_M8 (kw_sub rfl)
      obtain ⟨v11, e11⟩ : ∃ z_, M8 t 4 = z_ := ⟨_, rfl⟩
      have b11 : (-2147483648) ≤ v11 ∧ v11 ≤ 2147483647 := by rw [← e11]; exact (CI.r hC_M8 k_t (by decide) 4)
      obtain ⟨v12, e12⟩ : ∃ z_, M8 t 5 = z_ := ⟨_, rfl⟩
      have b12 : (-2147483648) ≤ v12 ∧ v12 ≤ 2147483647 := by rw [← e12]; exact (CI.r hC_M8 k_t (by decide) 5)
      obtain ⟨v13, e13⟩ : ∃ z_, M8 t 6 = z_ := ⟨_, rfl⟩
      have b13 : (-2147483648) ≤ v13 ∧ v13 ≤ 2147483647 := by rw [← e13]; exact (CI.r hC_M8 k_t (by decide) 6)
      refine jr.iload_n rfl rfl ?_
      exact jr.ireturn rfl rfl rfl (q _ _ hC_M8 ht_M8 (by omega) (by have hq4 : M8 t 4 = v11 := e11; have hq5 : M8 t 5 = v12 := e12; have hq6 : M8 t 6 = v13 := e13; obtain ⟨e1, e2⟩ := hsF_e hy2 (by omega) (by omega) (by omega); exact Or.elim w8_0 (fun h => (by clear w8_0; rw [if_pos h.1] at e1; exact Or.inl ⟨by omega, by omega, by split at e2 <;> omega, by omega⟩)) (fun h => (by clear w8_0; rw [if_neg h.1] at e1; exact Or.inr ⟨e1, by omega, by omega, by omega, by omega⟩))))
    · have sx124 : (1 : Int) ≤ r4 := by omega
      refine jr.iconst rfl ?_
      exact jr.ireturn rfl rfl rfl (q _ _ hC_M4 ht_M4 (by omega) (by have hq4 : M4 t 4 = v5 := e5; have hq5 : M4 t 5 = v6 := e6; have hq6 : M4 t 6 = v7 := e7; have e1 : hsF f N C (bkf (T (t + 1)) C) x y = _ := (by unfold hsF; rw [if_neg (by omega), if_neg (by omega), if_neg (by omega), if_neg (by omega), if_neg (by omega), if_neg (by omega), if_pos (by omega)]); have e2 : hsW f N C (bkf (T (t + 1)) C) x y = _ := (by unfold hsW; rw [if_neg (by omega), if_neg (by omega), if_neg (by omega), if_neg (by omega), if_neg (by omega), if_neg (by omega), if_pos (by omega)]); exact Or.inl ⟨by omega, by omega, by omega, by omega⟩))
theorem c_Headers_sizeIfRight_x_L54 {A : Nat → Option (Nat × (Nat → Int32))} {Q : Option Value → jm → Prop} {f : Int → Int} {T : jm} {t : Nat} (k_t : kd t = 18) {S : Int} {N : Int} {G : Int} {H : Int} {C : Int} {x : Int} {y : Int} (q : ∀ (r : Int) (M' : jm), CI M' → FR W_c_Headers_sizeIfRight_x T M' → (-401) ≤ r ∧ r ≤ 2048 → ((hsF f N C (bkf (T (t + 1)) C) x y ≠ 0 ∧ M' t 4 = hsF f N C (bkf (T (t + 1)) C) x y ∧ M' t 5 = hsW f N C (bkf (T (t + 1)) C) x y ∧ M' t 6 = x) ∨ (hsF f N C (bkf (T (t + 1)) C) x y = 0 ∧ M' t 4 = 0 ∧ r = hsZ f N x y ∧ M' t 5 = G ∧ M' t 6 = H)) → Q (some (.int (Int32.ofInt r))) M') : ∀ (nM : Nat) (M : jm), CI M → FR W_c_Headers_sizeIfRight_x T M → 0 ≤ x ∧ x ≤ 11 → 0 ≤ y ∧ y ≤ 400 → M t 7 = S → M ((S.toNat)) 1 = N → (M t 4 = 0 ∧ M t 5 = G ∧ M t 6 = H) → (BY8 M (S.toNat + 1) f) → (C < 12 ∧ ¬ ((x = 4 ∧ bkf (T (t + 1)) C ≠ 3) ∨ ((x = 6 ∨ x = 5) ∧ bkf (T (t + 1)) C ≠ 3 ∧ bkf (T (t + 1)) C ≠ 4 ∧ bkf (T (t + 1)) C ≠ 5)) ∧ ¬ ((x = 2 ∨ x = 3) ∧ N < y + 1) ∧ ¬ ((x = 2 ∧ hb f N y / 16 ≠ 4) ∨ (x = 3 ∧ hb f N y / 16 ≠ 6)) ∧ 0 ≤ N) → 0 ≤ nM → jr A 3 xm_127 54 [(1, .int (Int32.ofInt (x))), (2, .int (Int32.ofInt (y))), (0, .ref (t))] [] M Q := by
  intro nM
  induction nM using Nat.strongRecOn with
  | ind nM ih =>
    intro M  hC_M ht_M h_x h_y g_S g_N hy0 hy1 hy2 hm
    have k_S : kd S.toNat = 33 := (congrArg (fun z : Int => kd z.toNat) g_S).symm.trans (CI.x hC_M k_t 7 rfl (by decide))
    have b_N : (-1) ≤ N ∧ N ≤ 400 := by rw [← g_N]; exact (CI.r hC_M k_S (by decide) 1)
    have k_by : kd (S.toNat + 1) = 34 := (kf_33_0 k_S).2
    obtain ⟨v1, e1⟩ : ∃ z_, M t 4 = z_ := ⟨_, rfl⟩
    have b1 : (-2147483648) ≤ v1 ∧ v1 ≤ 2147483647 := by rw [← e1]; exact (CI.r hC_M k_t (by decide) 4)
    obtain ⟨v2, e2⟩ : ∃ z_, M t 5 = z_ := ⟨_, rfl⟩
    have b2 : (-2147483648) ≤ v2 ∧ v2 ≤ 2147483647 := by rw [← e2]; exact (CI.r hC_M k_t (by decide) 5)
    obtain ⟨v3, e3⟩ : ∃ z_, M t 6 = z_ := ⟨_, rfl⟩
    have b3 : (-2147483648) ≤ v3 ∧ v3 ≤ 2147483647 := by rw [← e3]; exact (CI.r hC_M k_t (by decide) 6)
    refine jr.aload_n rfl rfl ?_
    refine jr.iload_n rfl rfl ?_
    refine jr.iload_n rfl rfl ?_
    refine jr.gst (v := .ref 1000001) rfl rfl ?_
    refine jr.iload_n rfl rfl ?_
    obtain ⟨v4, e4⟩ : ∃ z_, xcv_1 x = z_ := ⟨_, rfl⟩
    have b4 : 1 ≤ v4 ∧ v4 ≤ 24 := by rw [← e4]; exact xcr_1 (by omega) (by omega)
    refine jr.ials (i := x) v4 rfl (by decide) rfl (by decide) (by omega) (by omega) (by rw [← e4]; exact (Int32.ofInt_toInt _).symm) ?_
    have hl1 := hls_c (k := x) (by omega) (by omega)
    have hl2 := hls_r x
    have hl3 := hls_v x
    refine jr.iadd rfl ?_
    have k5_S : kd (S).toNat = 33 := (congrArg (fun z : Int => kd z.toNat) g_S).symm.trans (CI.x hC_M k_t 7 rfl (by decide))
    refine jr_v rfl rfl (Or.inl rfl) rfl rfl (Nat.lt_trans (kx_18 k_t).1 (by decide)) (kx_18 k_t).2 ⟨rfl, Nat.le_of_ble_eq_true rfl, Nat.le_of_ble_eq_true rfl⟩ rfl (jc.deep (c_Headers_isCut_x hC_M (FR.rfl _ M) k_t (by omega) (by omega) g_S g_N e1 e2 e3 (fun r5 M5 hC_M5 hf_M5 z5 w5_0 => ?_)) (by decide))
    have ht_M5 : FR W_c_Headers_sizeIfRight_x T M5 := FR.t ht_M hf_M5 (kw_sub rfl)
    obtain ⟨v6, e6⟩ : ∃ z_, M5 t 4 = z_ := ⟨_, rfl⟩
    have b6 : (-2147483648) ≤ v6 ∧ v6 ≤ 2147483647 := by rw [← e6]; exact (CI.r hC_M5 k_t (by decide) 4)
    obtain ⟨v7, e7⟩ : ∃ z_, M5 t 5 = z_ := ⟨_, rfl⟩
    have b7 : (-2147483648) ≤ v7 ∧ v7 ≤ 2147483647 := by rw [← e7]; exact (CI.r hC_M5 k_t (by decide) 5)
    obtain ⟨v8, e8⟩ : ∃ z_, M5 t 6 = z_ := ⟨_, rfl⟩
    have b8 : (-2147483648) ≤ v8 ∧ v8 ≤ 2147483647 := by rw [← e8]; exact (CI.r hC_M5 k_t (by decide) 6)
    refine jr.if_eq rfl rfl (by omega) (fun h66 => ?_) (fun h66 => ?_)
    · refine jr.aload_n rfl rfl ?_
      refine jr.iload_n rfl rfl ?_
      refine jr.iload_n rfl rfl ?_
      have e10 : M5 t 7 = S := (hf_M5.g k_t rfl).trans g_S
      have k9_S : kd (S).toNat = 33 := (congrArg (fun z : Int => kd z.toNat) e10).symm.trans (CI.x hC_M5 k_t 7 rfl (by decide))
      have e11 : M5 ((S.toNat)) 1 = N := (hf_M5.g k9_S rfl).trans g_N
      refine jr_v rfl rfl (Or.inl rfl) rfl rfl (Nat.lt_trans (kx_18 k_t).1 (by decide)) (kx_18 k_t).2 ⟨rfl, Nat.le_of_ble_eq_true rfl, Nat.le_of_ble_eq_true rfl⟩ rfl (jc.deep (c_Headers_fullSize_x hC_M5 k_t (by omega) (by omega) e10 e11 (BY8.fr hy1 k_by hf_M5 rfl) (fun r9 z9 w9_0 => ?_)) (by decide))
      refine jr.istore_n rfl (by decide) rfl ?_
      refine jr.iload_n rfl rfl ?_
      refine jr.iconst rfl ?_
      refine jr.icmp_eq rfl rfl (by omega) (by omega) (fun h80 => ?_) (fun h80 => ?_)
      · refine jr.iload_n rfl rfl ?_
        refine jr.bipush rfl (by decide) ?_
        refine jr.icmp_ge rfl rfl (by omega) (by omega) (fun h92 => ?_) (fun h92 => ?_)
        · refine jr.pick [1, 2, 0, 3] rfl rfl ?_
          exact c_Headers_sizeIfRight_x_L116 k_t q 0 M5 r9 hC_M5 ht_M5 (by omega) (by omega) (by omega) e10 e11 (by have hq0 : M5 t 4 = v6 := e6; have hq1 : M5 t 5 = v7 := e7; have hq2 : M5 t 6 = v8 := e8; omega) (BY8.fr hy1 k_by hf_M5 rfl) (by omega) (by omega) (by omega) (by omega)
        · refine jr.aload_n rfl rfl ?_
          refine jr.iconst rfl ?_
          refine jr.iload_n rfl rfl ?_
          refine jr.iconst rfl ?_
          refine jr.icmp_ne rfl rfl (by omega) (by omega) (fun h99 => ?_) (fun h99 => ?_)
          · exact absurd h99 (by omega)
          · refine jr.iload_n rfl rfl ?_
            refine jr.goto rfl rfl ?_
            refine jr.iload_n rfl rfl ?_
            refine jr_v rfl rfl (Or.inl rfl) rfl rfl (Nat.lt_trans (kx_18 k_t).1 (by decide)) (kx_18 k_t).2 ⟨rfl, Nat.le_of_ble_eq_true rfl, Nat.le_of_ble_eq_true rfl⟩ rfl (jc.deep (c_Headers_find_x hC_M5 (FR.rfl _ M5) k_t (by omega) (by omega) (by omega) (fun M12 hC_M12 hf_M12 w12_0 w12_1 w12_2 => ?_)) (by decide))
            have ht_M12 : FR W_c_Headers_sizeIfRight_x T M12 := FR.t ht_M5 hf_M12 (kw_sub rfl)
            have b13 : (-2147483648) ≤ 4 ∧ 4 ≤ 2147483647 := by omega
            have b14 : (-2147483648) ≤ y ∧ y ≤ 2147483647 := by omega
            have b15 : (-2147483648) ≤ x ∧ x ≤ 2147483647 := by omega
            refine jr.iconst rfl ?_
            exact jr.ireturn rfl rfl rfl (q _ _ hC_M12 ht_M12 (by omega) (by have hq4 : M12 t 4 = 4 := w12_0; have hq5 : M12 t 5 = y := w12_1; have hq6 : M12 t 6 = x := w12_2; have e1 : hsF f N C (bkf (T (t + 1)) C) x y = _ := (by unfold hsF; rw [if_neg (by omega), if_neg (by omega), if_neg (by omega), if_neg (by omega), if_neg (by omega), if_pos (by omega)]); have e2 : hsW f N C (bkf (T (t + 1)) C) x y = _ := (by unfold hsW; rw [if_neg (by omega), if_neg (by omega), if_neg (by omega), if_neg (by omega), if_neg (by omega), if_pos (by omega)]); exact Or.inl ⟨by omega, by omega, by split at e2 <;> omega, by omega⟩))
      · refine jr.iload_n rfl rfl ?_
        refine jr.bipush rfl (by decide) ?_
        refine jr.icmp_ne rfl rfl (by omega) (by omega) (fun h86 => ?_) (fun h86 => ?_)
        · refine jr.pick [1, 2, 0, 3] rfl rfl ?_
          exact c_Headers_sizeIfRight_x_L116 k_t q 0 M5 r9 hC_M5 ht_M5 (by omega) (by omega) (by omega) e10 e11 (by have hq0 : M5 t 4 = v6 := e6; have hq1 : M5 t 5 = v7 := e7; have hq2 : M5 t 6 = v8 := e8; omega) (BY8.fr hy1 k_by hf_M5 rfl) (by omega) (by omega) (by omega) (by omega)
        · refine jr.iload_n rfl rfl ?_
          refine jr.bipush rfl (by decide) ?_
          refine jr.icmp_ge rfl rfl (by omega) (by omega) (fun h92 => ?_) (fun h92 => ?_)
          · refine jr.pick [1, 2, 0, 3] rfl rfl ?_
            exact c_Headers_sizeIfRight_x_L116 k_t q 0 M5 r9 hC_M5 ht_M5 (by omega) (by omega) (by omega) e10 e11 (by have hq0 : M5 t 4 = v6 := e6; have hq1 : M5 t 5 = v7 := e7; have hq2 : M5 t 6 = v8 := e8; omega) (BY8.fr hy1 k_by hf_M5 rfl) (by omega) (by omega) (by omega) (by omega)
          · refine jr.aload_n rfl rfl ?_
            refine jr.iconst rfl ?_
            refine jr.iload_n rfl rfl ?_
            refine jr.iconst rfl ?_
            refine jr.icmp_ne rfl rfl (by omega) (by omega) (fun h99 => ?_) (fun h99 => ?_)
            · refine jr.iload_n rfl rfl ?_
              refine jr.bipush rfl (by decide) ?_
              refine jr.iadd rfl ?_
              refine jr.iload_n rfl rfl ?_
              refine jr_v rfl rfl (Or.inl rfl) rfl rfl (Nat.lt_trans (kx_18 k_t).1 (by decide)) (kx_18 k_t).2 ⟨rfl, Nat.le_of_ble_eq_true rfl, Nat.le_of_ble_eq_true rfl⟩ rfl (jc.deep (c_Headers_find_x hC_M5 (FR.rfl _ M5) k_t (by omega) (by omega) (by omega) (fun M16 hC_M16 hf_M16 w16_0 w16_1 w16_2 => ?_)) (by decide))
              have ht_M16 : FR W_c_Headers_sizeIfRight_x T M16 := FR.t ht_M5 hf_M16 (kw_sub rfl)
              have b17 : (-2147483648) ≤ 4 ∧ 4 ≤ 2147483647 := by omega
              have b18 : (-2147483648) ≤ y + 12 ∧ y + 12 ≤ 2147483647 := by omega
              have b19 : (-2147483648) ≤ x ∧ x ≤ 2147483647 := by omega
              refine jr.iconst rfl ?_
              exact jr.ireturn rfl rfl rfl (q _ _ hC_M16 ht_M16 (by omega) (by have hq4 : M16 t 4 = 4 := w16_0; have hq5 : M16 t 5 = y + 12 := w16_1; have hq6 : M16 t 6 = x := w16_2; have e1 : hsF f N C (bkf (T (t + 1)) C) x y = _ := (by unfold hsF; rw [if_neg (by omega), if_neg (by omega), if_neg (by omega), if_neg (by omega), if_neg (by omega), if_pos (by omega)]); have e2 : hsW f N C (bkf (T (t + 1)) C) x y = _ := (by unfold hsW; rw [if_neg (by omega), if_neg (by omega), if_neg (by omega), if_neg (by omega), if_neg (by omega), if_pos (by omega)]); exact Or.inl ⟨by omega, by omega, by split at e2 <;> omega, by omega⟩))
            · exact absurd (by omega) h99
    · have sx66 : (1 : Int) ≤ r5 := by omega
      refine jr.iconst rfl ?_
      exact jr.ireturn rfl rfl rfl (q _ _ hC_M5 ht_M5 (by omega) (by have hq4 : M5 t 4 = v6 := e6; have hq5 : M5 t 5 = v7 := e7; have hq6 : M5 t 6 = v8 := e8; have e1 : hsF f N C (bkf (T (t + 1)) C) x y = _ := (by unfold hsF; rw [if_neg (by omega), if_neg (by omega), if_neg (by omega), if_neg (by omega), if_pos (by omega)]); have e2 : hsW f N C (bkf (T (t + 1)) C) x y = _ := (by unfold hsW; rw [if_neg (by omega), if_neg (by omega), if_neg (by omega), if_neg (by omega), if_pos (by omega)]); exact Or.inl ⟨by omega, by omega, by omega, by omega⟩))
theorem c_Headers_sizeIfRight_x {A : Nat → Option (Nat × (Nat → Int32))} {Q : Option Value → jm → Prop} {f : Int → Int} {T : jm} {M : jm} (hC_M : CI M) (ht_M : FR W_c_Headers_sizeIfRight_x T M) {t : Nat} (k_t : kd t = 18) {x : Int} (h_x : 0 ≤ x ∧ x ≤ 11) {y : Int} (h_y : 0 ≤ y ∧ y ≤ 400) {S : Int} (g_S : M t 7 = S) {N : Int} (g_N : M ((S.toNat)) 1 = N) {F : Int} (g_F : M t 4 = F) {G : Int} (g_G : M t 5 = G) {H : Int} (g_H : M t 6 = H) {C : Int} (g_C : M t 3 = C) (p0 : T = M) (p1 : BY8 M (S.toNat + 1) f) (p2 : F = 0) (p3 : 0 ≤ N) (q : ∀ (r : Int) (M' : jm), CI M' → FR W_c_Headers_sizeIfRight_x T M' → (-401) ≤ r ∧ r ≤ 2048 → ((hsF f N C (bkf (T (t + 1)) C) x y ≠ 0 ∧ M' t 4 = hsF f N C (bkf (T (t + 1)) C) x y ∧ M' t 5 = hsW f N C (bkf (T (t + 1)) C) x y ∧ M' t 6 = x) ∨ (hsF f N C (bkf (T (t + 1)) C) x y = 0 ∧ M' t 4 = 0 ∧ r = hsZ f N x y ∧ M' t 5 = G ∧ M' t 6 = H)) → Q (some (.int (Int32.ofInt r))) M') : jc A 4 127 [.ref (t), .int (Int32.ofInt (x)), .int (Int32.ofInt (y))] M Q := by
  refine jc_of (m := xm_127) rfl (Nat.le_of_ble_eq_true rfl) rfl ?_
  have k_S : kd S.toNat = 33 := (congrArg (fun z : Int => kd z.toNat) g_S).symm.trans (CI.x hC_M k_t 7 rfl (by decide))
  have b_N : (-1) ≤ N ∧ N ≤ 400 := by rw [← g_N]; exact (CI.r hC_M k_S (by decide) 1)
  have b_F : (-2147483648) ≤ F ∧ F ≤ 2147483647 := by rw [← g_F]; exact (CI.r hC_M k_t (by decide) 4)
  have b_G : (-2147483648) ≤ G ∧ G ≤ 2147483647 := by rw [← g_G]; exact (CI.r hC_M k_t (by decide) 5)
  have b_H : (-2147483648) ≤ H ∧ H ≤ 2147483647 := by rw [← g_H]; exact (CI.r hC_M k_t (by decide) 6)
  have b_C : 0 ≤ C ∧ C ≤ 12 := by rw [← g_C]; exact (CI.r hC_M k_t (by decide) 3)
  have k_by : kd (S.toNat + 1) = 34 := (kf_33_0 k_S).2
  refine jr.aload_n rfl rfl ?_
  refine jr.getf (i := 3) (x := C) (v := .int (Int32.ofInt (C))) rfl rfl (Nat.lt_trans (kx_18 k_t).1 (by decide)) (kx_18 k_t).2 (by decide) rfl rfl g_C rfl ?_
  refine jr.bipush rfl (by decide) ?_
  refine jr.icmp_lt rfl rfl (by omega) (by omega) (fun h6 => ?_) (fun h6 => ?_)
  · refine jr.aload_n rfl rfl ?_
    refine jr.iload_n rfl rfl ?_
    refine jr_v rfl rfl (Or.inl rfl) rfl rfl (Nat.lt_trans (kx_18 k_t).1 (by decide)) (kx_18 k_t).2 ⟨rfl, Nat.le_of_ble_eq_true rfl, Nat.le_of_ble_eq_true rfl⟩ rfl (jc.deep (c_Headers_isMisplaced_x hC_M k_t (by omega) g_C (fun r1 z1 w1_0 => ?_)) (by decide))
    refine jr.if_eq rfl rfl (by omega) (fun h24 => ?_) (fun h24 => ?_)
    · refine jr.iload_n rfl rfl ?_
      refine jr_s rfl rfl (Or.inr rfl) ⟨Nat.le_of_ble_eq_true rfl, Nat.le_of_ble_eq_true rfl⟩ rfl rfl (jc.deep (c_PacketWall_isNetKind_x hC_M (by omega) (fun r2 z2 w2_0 w2_1 => ?_)) (by decide))
      refine jr.if_eq rfl rfl (by omega) (fun h40 => ?_) (fun h40 => ?_)
      · refine jr.pick [1, 2, 0] rfl rfl ?_
        exact c_Headers_sizeIfRight_x_L54 k_t q 0 M  hC_M ht_M (by omega) (by omega) g_S g_N (by have hq0 : M t 4 = F := g_F; have hq1 : M t 5 = G := g_G; have hq2 : M t 6 = H := g_H; omega) p1 (by rw [p0]; omega) (by omega)
      · have sx40 : (1 : Int) ≤ r2 := by omega
        refine jr.aload_n rfl rfl ?_
        refine jr.iload_n rfl rfl ?_
        refine jr.iload_n rfl rfl ?_
        have k3_S : kd (S).toNat = 33 := (congrArg (fun z : Int => kd z.toNat) g_S).symm.trans (CI.x hC_M k_t 7 rfl (by decide))
        refine jr_v rfl rfl (Or.inl rfl) rfl rfl (Nat.lt_trans (kx_18 k_t).1 (by decide)) (kx_18 k_t).2 ⟨rfl, Nat.le_of_ble_eq_true rfl, Nat.le_of_ble_eq_true rfl⟩ rfl (jc.deep (c_Headers_isOtherVersion_x hC_M (FR.rfl _ M) k_t (by omega) (by omega) g_S g_N g_F g_G g_H p1 (by omega) (fun r3 M3 hC_M3 hf_M3 z3 w3_0 => ?_)) (by decide))
        have ht_M3 : FR W_c_Headers_sizeIfRight_x T M3 := FR.t ht_M hf_M3 (kw_sub rfl)
        obtain ⟨v4, e4⟩ : ∃ z_, M3 t 4 = z_ := ⟨_, rfl⟩
        have b4 : (-2147483648) ≤ v4 ∧ v4 ≤ 2147483647 := by rw [← e4]; exact (CI.r hC_M3 k_t (by decide) 4)
        obtain ⟨v5, e5⟩ : ∃ z_, M3 t 5 = z_ := ⟨_, rfl⟩
        have b5 : (-2147483648) ≤ v5 ∧ v5 ≤ 2147483647 := by rw [← e5]; exact (CI.r hC_M3 k_t (by decide) 5)
        obtain ⟨v6, e6⟩ : ∃ z_, M3 t 6 = z_ := ⟨_, rfl⟩
        have b6 : (-2147483648) ≤ v6 ∧ v6 ≤ 2147483647 := by rw [← e6]; exact (CI.r hC_M3 k_t (by decide) 6)
        refine jr.if_eq rfl rfl (by omega) (fun h49 => ?_) (fun h49 => ?_)
        · have e7 : M3 t 7 = S := (hf_M3.g k_t rfl).trans g_S
          have e8 : M3 ((S.toNat)) 1 = N := (hf_M3.g k3_S rfl).trans g_N
          refine jr.pick [1, 2, 0] rfl rfl ?_
          exact c_Headers_sizeIfRight_x_L54 k_t q 0 M3  hC_M3 ht_M3 (by omega) (by omega) e7 e8 (by have hq0 : M3 t 4 = v4 := e4; have hq1 : M3 t 5 = v5 := e5; have hq2 : M3 t 6 = v6 := e6; omega) (BY8.fr p1 k_by hf_M3 rfl) (by rw [p0]; omega) (by omega)
        · have sx49 : (1 : Int) ≤ r3 := by omega
          refine jr.iconst rfl ?_
          exact jr.ireturn rfl rfl rfl (q _ _ hC_M3 ht_M3 (by omega) (by rw [p0]; have hq4 : M3 t 4 = v4 := e4; have hq5 : M3 t 5 = v5 := e5; have hq6 : M3 t 6 = v6 := e6; exact Or.elim w3_0 (fun h => (by have e1 : hsF f N C (bkf (M (t + 1)) C) x y = _ := (by unfold hsF; rw [if_neg (by omega), if_neg (by omega), if_pos (by omega)]); have e2 : hsW f N C (bkf (M (t + 1)) C) x y = _ := (by unfold hsW; rw [if_neg (by omega), if_neg (by omega), if_pos (by omega)]); exact Or.inl ⟨by omega, by omega, by omega, by omega⟩)) (fun h => Or.elim h (fun h => (by have e1 : hsF f N C (bkf (M (t + 1)) C) x y = _ := (by unfold hsF; rw [if_neg (by omega), if_neg (by omega), if_neg (by omega), if_pos (by omega)]); have e2 : hsW f N C (bkf (M (t + 1)) C) x y = _ := (by unfold hsW; rw [if_neg (by omega), if_neg (by omega), if_neg (by omega), if_pos (by omega)]); exact Or.inl ⟨by omega, by omega, by omega, by omega⟩)) (fun h => (by omega)))))
    · have sx24 : (1 : Int) ≤ r1 := by omega
      refine jr.aload_n rfl rfl ?_
      refine jr.iconst rfl ?_
      refine jr.iload_n rfl rfl ?_
      refine jr.iload_n rfl rfl ?_
      refine jr_v rfl rfl (Or.inl rfl) rfl rfl (Nat.lt_trans (kx_18 k_t).1 (by decide)) (kx_18 k_t).2 ⟨rfl, Nat.le_of_ble_eq_true rfl, Nat.le_of_ble_eq_true rfl⟩ rfl (jc.deep (c_Headers_find_x hC_M (FR.rfl _ M) k_t (by omega) (by omega) (by omega) (fun M9 hC_M9 hf_M9 w9_0 w9_1 w9_2 => ?_)) (by decide))
      have ht_M9 : FR W_c_Headers_sizeIfRight_x T M9 := FR.t ht_M hf_M9 (kw_sub rfl)
      have b10 : (-2147483648) ≤ 3 ∧ 3 ≤ 2147483647 := by omega
      have b11 : (-2147483648) ≤ y ∧ y ≤ 2147483647 := by omega
      have b12 : (-2147483648) ≤ x ∧ x ≤ 2147483647 := by omega
      refine jr.iconst rfl ?_
      exact jr.ireturn rfl rfl rfl (q _ _ hC_M9 ht_M9 (by omega) (by rw [p0]; have hq4 : M9 t 4 = 3 := w9_0; have hq5 : M9 t 5 = y := w9_1; have hq6 : M9 t 6 = x := w9_2; have e1 : hsF f N C (bkf (M (t + 1)) C) x y = _ := (by unfold hsF; rw [if_neg (by omega), if_pos (by omega)]); have e2 : hsW f N C (bkf (M (t + 1)) C) x y = _ := (by unfold hsW; rw [if_neg (by omega), if_pos (by omega)]); exact Or.inl ⟨by omega, by omega, by omega, by omega⟩))
  · refine jr.aload_n rfl rfl ?_
    refine jr.bipush rfl (by decide) ?_
    refine jr.iload_n rfl rfl ?_
    refine jr.iload_n rfl rfl ?_
    refine jr_v rfl rfl (Or.inl rfl) rfl rfl (Nat.lt_trans (kx_18 k_t).1 (by decide)) (kx_18 k_t).2 ⟨rfl, Nat.le_of_ble_eq_true rfl, Nat.le_of_ble_eq_true rfl⟩ rfl (jc.deep (c_Headers_find_x hC_M (FR.rfl _ M) k_t (by omega) (by omega) (by omega) (fun M13 hC_M13 hf_M13 w13_0 w13_1 w13_2 => ?_)) (by decide))
    have ht_M13 : FR W_c_Headers_sizeIfRight_x T M13 := FR.t ht_M hf_M13 (kw_sub rfl)
    have b14 : (-2147483648) ≤ 6 ∧ 6 ≤ 2147483647 := by omega
    have b15 : (-2147483648) ≤ y ∧ y ≤ 2147483647 := by omega
    have b16 : (-2147483648) ≤ x ∧ x ≤ 2147483647 := by omega
    refine jr.iconst rfl ?_
    exact jr.ireturn rfl rfl rfl (q _ _ hC_M13 ht_M13 (by omega) (by rw [p0]; have hq4 : M13 t 4 = 6 := w13_0; have hq5 : M13 t 5 = y := w13_1; have hq6 : M13 t 6 = x := w13_2; have e1 : hsF f N C (bkf (M (t + 1)) C) x y = _ := (by unfold hsF; rw [if_pos (by omega)]); have e2 : hsW f N C (bkf (M (t + 1)) C) x y = _ := (by unfold hsW; rw [if_pos (by omega)]); exact Or.inl ⟨by omega, by omega, by omega, by omega⟩))
end
section
/-! ===== headers: the kind that follows ===== -/
noncomputable def byK (v : Int) : Int := if v = 4 then 2 else if v = 6 then 3 else if v = 9 then 1 else 11
noncomputable def byN (v e : Int) : Int := if v = 1 then 7 else if v = 6 then 8 else if v = 17 then 9 else if v = 47 then 10 else if v = 4 then 2 else if v = 41 then 3 else if e = 0 then 11 else if v = 0 then 4 else if v = 43 then 5 else if v = 44 then 6 else 11
noncomputable def byQ (v w : Int) : Int := if v ≠ 3 ∧ v ≠ 11 then 11 else if w / 16 = 4 then 2 else if w / 16 = 6 then 3 else 11
noncomputable def hsN (f : Int → Int) (n k a z : Int) : Int := if k = 0 ∨ k = 1 ∨ k = 10 then byK (tw f (a + 2)) else if k = 2 then (if tw f (a + 6) % 8192 ≠ 0 then 11 else byN (hb f n (a + 9)) 0) else if k = 3 then byN (hb f n (a + 4)) 1 else if k = 4 ∨ k = 5 then byN (hb f n a) 1 else if k = 6 then (if tw f (a + 2) / 8 ≠ 0 then 11 else byN (hb f n a) 1) else if k = 7 then byQ (hb f n a) (hb f n z) else 11
theorem c_Headers_kindOfLink_x {A : Nat → Option (Nat × (Nat → Int32))} {Q : Option Value → jm → Prop} {M : jm} (hC_M : CI M) {x : Int} (h_x : (-2147483648) ≤ x ∧ x ≤ 2147483647) (q : ∀ (r : Int), 0 ≤ r ∧ r ≤ 11 → (r = byK x) → Q (some (.int (Int32.ofInt r))) M) : jc A 1 134 [.int (Int32.ofInt (x))] M Q := by
  refine jc_of (m := xm_134) rfl (Nat.le_of_ble_eq_true rfl) rfl ?_
  refine jr.iload_n rfl rfl ?_
  rcases (show x = 4 ∨ x = 6 ∨ x = 9 ∨ (x ≠ 4 ∧ x ≠ 6 ∧ x ≠ 9) by omega) with h1 | h1 | h1 | h1
  · refine jr.lsw_k 4 rfl h1 rfl ?_
    refine jr.iconst rfl ?_
    exact jr.ireturn rfl rfl rfl (q _ (by omega) (by unfold byK; (repeat' split) <;> omega))
  · refine jr.lsw_k 6 rfl h1 rfl ?_
    refine jr.iconst rfl ?_
    exact jr.ireturn rfl rfl rfl (q _ (by omega) (by unfold byK; (repeat' split) <;> omega))
  · refine jr.lsw_k 9 rfl h1 rfl ?_
    refine jr.iconst rfl ?_
    exact jr.ireturn rfl rfl rfl (q _ (by omega) (by unfold byK; (repeat' split) <;> omega))
  · refine jr.lsw_d rfl (by omega) rfl (fun q hq => by simp only [List.mem_cons, List.not_mem_nil, or_false] at hq; rcases hq with rfl | rfl | rfl <;> (simp only; omega)) rfl ?_
    refine jr.bipush rfl (by decide) ?_
    exact jr.ireturn rfl rfl rfl (q _ (by omega) (by unfold byK; (repeat' split) <;> omega))
theorem c_Headers_kindOfNext_x {A : Nat → Option (Nat × (Nat → Int32))} {Q : Option Value → jm → Prop} {M : jm} (hC_M : CI M) {x : Int} (h_x : (-2147483648) ≤ x ∧ x ≤ 2147483647) {y : Int} (h_y : 0 ≤ y ∧ y ≤ 1) (q : ∀ (r : Int), 0 ≤ r ∧ r ≤ 11 → (r = byN x y) → Q (some (.int (Int32.ofInt r))) M) : jc A 1 135 [.int (Int32.ofInt (x)), .int (Int32.ofInt (y))] M Q := by
  refine jc_of (m := xm_135) rfl (Nat.le_of_ble_eq_true rfl) rfl ?_
  refine jr.iload_n rfl rfl ?_
  rcases (show x = 0 ∨ x = 1 ∨ x = 4 ∨ x = 6 ∨ x = 17 ∨ x = 41 ∨ x = 43 ∨ x = 44 ∨ x = 47 ∨ (x ≠ 0 ∧ x ≠ 1 ∧ x ≠ 4 ∧ x ≠ 6 ∧ x ≠ 17 ∧ x ≠ 41 ∧ x ≠ 43 ∧ x ≠ 44 ∧ x ≠ 47) by omega) with h1 | h1 | h1 | h1 | h1 | h1 | h1 | h1 | h1 | h1
  · refine jr.lsw_k 0 rfl h1 rfl ?_
    refine jr.iload_n rfl rfl ?_
    refine jr.if_eq rfl rfl (by omega) (fun h101 => ?_) (fun h101 => ?_)
    · refine jr.bipush rfl (by decide) ?_
      exact jr.ireturn rfl rfl rfl (q _ (by omega) (by unfold byN; (repeat' split) <;> omega))
    · have sx101 : (1 : Int) ≤ y := by omega
      refine jr.iconst rfl ?_
      refine jr.goto rfl rfl ?_
      exact jr.ireturn rfl rfl rfl (q _ (by omega) (by unfold byN; (repeat' split) <;> omega))
  · refine jr.lsw_k 1 rfl h1 rfl ?_
    refine jr.bipush rfl (by decide) ?_
    exact jr.ireturn rfl rfl rfl (q _ (by omega) (by unfold byN; (repeat' split) <;> omega))
  · refine jr.lsw_k 4 rfl h1 rfl ?_
    refine jr.iconst rfl ?_
    exact jr.ireturn rfl rfl rfl (q _ (by omega) (by unfold byN; (repeat' split) <;> omega))
  · refine jr.lsw_k 6 rfl h1 rfl ?_
    refine jr.bipush rfl (by decide) ?_
    exact jr.ireturn rfl rfl rfl (q _ (by omega) (by unfold byN; (repeat' split) <;> omega))
  · refine jr.lsw_k 17 rfl h1 rfl ?_
    refine jr.bipush rfl (by decide) ?_
    exact jr.ireturn rfl rfl rfl (q _ (by omega) (by unfold byN; (repeat' split) <;> omega))
  · refine jr.lsw_k 41 rfl h1 rfl ?_
    refine jr.iconst rfl ?_
    exact jr.ireturn rfl rfl rfl (q _ (by omega) (by unfold byN; (repeat' split) <;> omega))
  · refine jr.lsw_k 43 rfl h1 rfl ?_
    refine jr.iload_n rfl rfl ?_
    refine jr.if_eq rfl rfl (by omega) (fun h112 => ?_) (fun h112 => ?_)
    · refine jr.bipush rfl (by decide) ?_
      exact jr.ireturn rfl rfl rfl (q _ (by omega) (by unfold byN; (repeat' split) <;> omega))
    · have sx112 : (1 : Int) ≤ y := by omega
      refine jr.iconst rfl ?_
      refine jr.goto rfl rfl ?_
      exact jr.ireturn rfl rfl rfl (q _ (by omega) (by unfold byN; (repeat' split) <;> omega))
  · refine jr.lsw_k 44 rfl h1 rfl ?_
    refine jr.iload_n rfl rfl ?_
    refine jr.if_eq rfl rfl (by omega) (fun h123 => ?_) (fun h123 => ?_)
    · refine jr.bipush rfl (by decide) ?_
      exact jr.ireturn rfl rfl rfl (q _ (by omega) (by unfold byN; (repeat' split) <;> omega))
    · have sx123 : (1 : Int) ≤ y := by omega
      refine jr.bipush rfl (by decide) ?_
      refine jr.goto rfl rfl ?_
      exact jr.ireturn rfl rfl rfl (q _ (by omega) (by unfold byN; (repeat' split) <;> omega))
  · refine jr.lsw_k 47 rfl h1 rfl ?_
    refine jr.bipush rfl (by decide) ?_
    exact jr.ireturn rfl rfl rfl (q _ (by omega) (by unfold byN; (repeat' split) <;> omega))
  · refine jr.lsw_d rfl (by omega) rfl (fun q hq => by simp only [List.mem_cons, List.not_mem_nil, or_false] at hq; rcases hq with rfl | rfl | rfl | rfl | rfl | rfl | rfl | rfl | rfl <;> (simp only; omega)) rfl ?_
    refine jr.bipush rfl (by decide) ?_
    exact jr.ireturn rfl rfl rfl (q _ (by omega) (by unfold byN; (repeat' split) <;> omega))
theorem c_Headers_quotedKind_x {A : Nat → Option (Nat × (Nat → Int32))} {Q : Option Value → jm → Prop} {f : Int → Int} {M : jm} (hC_M : CI M) {t : Nat} (k_t : kd t = 18) {x : Int} (h_x : (-2147483648) ≤ x ∧ x ≤ 2147483647) {y : Int} (h_y : 0 ≤ y ∧ y ≤ 400) {S : Int} (g_S : M t 7 = S) {N : Int} (g_N : M ((S.toNat)) 1 = N) (p0 : BY8 M (S.toNat + 1) f) (q : ∀ (r : Int), 0 ≤ r ∧ r ≤ 11 → (r = byQ x (hb f N y)) → Q (some (.int (Int32.ofInt r))) M) : jc A 2 136 [.ref (t), .int (Int32.ofInt (x)), .int (Int32.ofInt (y))] M Q := by
  refine jc_of (m := xm_136) rfl (Nat.le_of_ble_eq_true rfl) rfl ?_
  have k_S : kd S.toNat = 33 := (congrArg (fun z : Int => kd z.toNat) g_S).symm.trans (CI.x hC_M k_t 7 rfl (by decide))
  have b_N : (-1) ≤ N ∧ N ≤ 400 := by rw [← g_N]; exact (CI.r hC_M k_S (by decide) 1)
  have k_by : kd (S.toNat + 1) = 34 := (kf_33_0 k_S).2
  refine jr.iload_n rfl rfl ?_
  refine jr.iconst rfl ?_
  refine jr.icmp_eq rfl rfl (by omega) (by omega) (fun h2 => ?_) (fun h2 => ?_)
  · refine jr.aload_n rfl rfl ?_
    refine jr.getf (i := 7) (x := S) (v := .ref (S.toNat)) rfl rfl (Nat.lt_trans (kx_18 k_t).1 (by decide)) (kx_18 k_t).2 (by decide) rfl rfl g_S (jval_mut rfl (kn_18_7 k_t)) ?_
    refine jr.iload_n rfl rfl ?_
    refine jr_v rfl rfl (Or.inl rfl) rfl rfl (Nat.lt_trans (kx_33 k_S).1 (by decide)) (kx_33 k_S).2 ⟨rfl, Nat.le_of_ble_eq_true rfl, Nat.le_of_ble_eq_true rfl⟩ rfl (jc.deep (c_Packet_byteAt_h hC_M k_S (by omega) g_N p0 (fun r2 z2 w2_0 => ?_)) (by decide))
    refine jr.iconst rfl ?_
    refine jr.ishr rfl ?_
    have b3 : j_shr r2 4 = r2 / 16 := j_shr_ex 4 (by decide) (by omega) (by omega)
    generalize j_shr r2 4 = v3 at b3 ⊢
    refine jr.istore_n rfl (by decide) rfl ?_
    refine jr.iload_n rfl rfl ?_
    refine jr.iconst rfl ?_
    refine jr.icmp_ne rfl rfl (by omega) (by omega) (fun h27 => ?_) (fun h27 => ?_)
    · refine jr.iload_n rfl rfl ?_
      refine jr.bipush rfl (by decide) ?_
      refine jr.icmp_ne rfl rfl (by omega) (by omega) (fun h37 => ?_) (fun h37 => ?_)
      · refine jr.bipush rfl (by decide) ?_
        exact jr.ireturn rfl rfl rfl (q _ (by omega) (by unfold byQ; (repeat' split) <;> omega))
      · refine jr.iconst rfl ?_
        refine jr.goto rfl rfl ?_
        exact jr.ireturn rfl rfl rfl (q _ (by omega) (by unfold byQ; (repeat' split) <;> omega))
    · refine jr.iconst rfl ?_
      refine jr.goto rfl rfl ?_
      exact jr.ireturn rfl rfl rfl (q _ (by omega) (by unfold byQ; (repeat' split) <;> omega))
  · refine jr.iload_n rfl rfl ?_
    refine jr.bipush rfl (by decide) ?_
    refine jr.icmp_eq rfl rfl (by omega) (by omega) (fun h8 => ?_) (fun h8 => ?_)
    · refine jr.aload_n rfl rfl ?_
      refine jr.getf (i := 7) (x := S) (v := .ref (S.toNat)) rfl rfl (Nat.lt_trans (kx_18 k_t).1 (by decide)) (kx_18 k_t).2 (by decide) rfl rfl g_S (jval_mut rfl (kn_18_7 k_t)) ?_
      refine jr.iload_n rfl rfl ?_
      refine jr_v rfl rfl (Or.inl rfl) rfl rfl (Nat.lt_trans (kx_33 k_S).1 (by decide)) (kx_33 k_S).2 ⟨rfl, Nat.le_of_ble_eq_true rfl, Nat.le_of_ble_eq_true rfl⟩ rfl (jc.deep (c_Packet_byteAt_h hC_M k_S (by omega) g_N p0 (fun r5 z5 w5_0 => ?_)) (by decide))
      refine jr.iconst rfl ?_
      refine jr.ishr rfl ?_
      have b6 : j_shr r5 4 = r5 / 16 := j_shr_ex 4 (by decide) (by omega) (by omega)
      generalize j_shr r5 4 = v6 at b6 ⊢
      refine jr.istore_n rfl (by decide) rfl ?_
      refine jr.iload_n rfl rfl ?_
      refine jr.iconst rfl ?_
      refine jr.icmp_ne rfl rfl (by omega) (by omega) (fun h27 => ?_) (fun h27 => ?_)
      · refine jr.iload_n rfl rfl ?_
        refine jr.bipush rfl (by decide) ?_
        refine jr.icmp_ne rfl rfl (by omega) (by omega) (fun h37 => ?_) (fun h37 => ?_)
        · refine jr.bipush rfl (by decide) ?_
          exact jr.ireturn rfl rfl rfl (q _ (by omega) (by unfold byQ; (repeat' split) <;> omega))
        · refine jr.iconst rfl ?_
          refine jr.goto rfl rfl ?_
          exact jr.ireturn rfl rfl rfl (q _ (by omega) (by unfold byQ; (repeat' split) <;> omega))
      · refine jr.iconst rfl ?_
        refine jr.goto rfl rfl ?_
        exact jr.ireturn rfl rfl rfl (q _ (by omega) (by unfold byQ; (repeat' split) <;> omega))
    · refine jr.bipush rfl (by decide) ?_
      exact jr.ireturn rfl rfl rfl (q _ (by omega) (by unfold byQ; (repeat' split) <;> omega))
theorem hls_w (x : Int) : (x ≠ 0 ∨ hls x = 4) ∧ (x ≠ 1 ∨ hls x = 4) ∧ (x ≠ 10 ∨ hls x = 4) ∧ (x ≠ 2 ∨ hls x = 20) ∧ (x ≠ 6 ∨ hls x = 8) := by
  unfold hls
  (repeat' split) <;> omega
theorem c_Headers_toldKind_x {A : Nat → Option (Nat × (Nat → Int32))} {Q : Option Value → jm → Prop} {f : Int → Int} {M : jm} (hC_M : CI M) {t : Nat} (k_t : kd t = 18) {x : Int} (h_x : 0 ≤ x ∧ x ≤ 11) {y : Int} (h_y : 0 ≤ y ∧ y ≤ 400) {z : Int} (h_z : 0 ≤ z ∧ z ≤ 400) {S : Int} (g_S : M t 7 = S) {N : Int} (g_N : M ((S.toNat)) 1 = N) (p0 : BY8 M (S.toNat + 1) f) (p1 : y + hls x ≤ N) (q : ∀ (r : Int), 0 ≤ r ∧ r ≤ 11 → (r = hsN f N x y z) → Q (some (.int (Int32.ofInt r))) M) : jc A 3 133 [.ref (t), .int (Int32.ofInt (x)), .int (Int32.ofInt (y)), .int (Int32.ofInt (z))] M Q := by
  refine jc_of (m := xm_133) rfl (Nat.le_of_ble_eq_true rfl) rfl ?_
  have k_S : kd S.toNat = 33 := (congrArg (fun z : Int => kd z.toNat) g_S).symm.trans (CI.x hC_M k_t 7 rfl (by decide))
  have b_N : (-1) ≤ N ∧ N ≤ 400 := by rw [← g_N]; exact (CI.r hC_M k_S (by decide) 1)
  have k_by : kd (S.toNat + 1) = 34 := (kf_33_0 k_S).2
  have hw := hls_w x
  refine jr.iload_n rfl rfl ?_
  rcases (show x = 0 ∨ x = 1 ∨ x = 2 ∨ x = 3 ∨ x = 4 ∨ x = 5 ∨ x = 6 ∨ x = 7 ∨ x = 8 ∨ x = 9 ∨ x = 10 ∨ (x ≠ 0 ∧ x ≠ 1 ∧ x ≠ 2 ∧ x ≠ 3 ∧ x ≠ 4 ∧ x ≠ 5 ∧ x ≠ 6 ∧ x ≠ 7 ∧ x ≠ 8 ∧ x ≠ 9 ∧ x ≠ 10) by omega) with h1 | h1 | h1 | h1 | h1 | h1 | h1 | h1 | h1 | h1 | h1 | h1
  · refine jr.tsw_k 0 rfl h1 rfl ?_
    refine jr.aload_n rfl rfl ?_
    refine jr.getf (i := 7) (x := S) (v := .ref (S.toNat)) rfl rfl (Nat.lt_trans (kx_18 k_t).1 (by decide)) (kx_18 k_t).2 (by decide) rfl rfl g_S (jval_mut rfl (kn_18_7 k_t)) ?_
    refine jr.iload_n rfl rfl ?_
    refine jr.iconst rfl ?_
    refine jr.iadd rfl ?_
    refine jr.iconst rfl ?_
    refine jr_v rfl rfl (Or.inl rfl) rfl rfl (Nat.lt_trans (kx_33 k_S).1 (by decide)) (kx_33 k_S).2 ⟨rfl, Nat.le_of_ble_eq_true rfl, Nat.le_of_ble_eq_true rfl⟩ rfl (jc.deep (c_Packet_numberFrom_h hC_M k_S (by omega) p0 (fun r2 z2 w2_0 => ?_)) (by decide))
    refine jr.l2i rfl ?_
    refine jr_s rfl rfl (Or.inl rfl) ⟨Nat.le_of_ble_eq_true rfl, Nat.le_of_ble_eq_true rfl⟩ rfl rfl (jc.deep (c_Headers_kindOfLink_x hC_M (by omega) (fun r3 z3 w3_0 => ?_)) (by decide))
    exact jr.ireturn rfl rfl rfl (q _ (by omega) (by unfold hsN; rw [if_pos (by omega)]; rw [← w2_0.1]; exact w3_0))
  · refine jr.tsw_k 1 rfl h1 rfl ?_
    refine jr.aload_n rfl rfl ?_
    refine jr.getf (i := 7) (x := S) (v := .ref (S.toNat)) rfl rfl (Nat.lt_trans (kx_18 k_t).1 (by decide)) (kx_18 k_t).2 (by decide) rfl rfl g_S (jval_mut rfl (kn_18_7 k_t)) ?_
    refine jr.iload_n rfl rfl ?_
    refine jr.iconst rfl ?_
    refine jr.iadd rfl ?_
    refine jr.iconst rfl ?_
    refine jr_v rfl rfl (Or.inl rfl) rfl rfl (Nat.lt_trans (kx_33 k_S).1 (by decide)) (kx_33 k_S).2 ⟨rfl, Nat.le_of_ble_eq_true rfl, Nat.le_of_ble_eq_true rfl⟩ rfl (jc.deep (c_Packet_numberFrom_h hC_M k_S (by omega) p0 (fun r5 z5 w5_0 => ?_)) (by decide))
    refine jr.l2i rfl ?_
    refine jr_s rfl rfl (Or.inl rfl) ⟨Nat.le_of_ble_eq_true rfl, Nat.le_of_ble_eq_true rfl⟩ rfl rfl (jc.deep (c_Headers_kindOfLink_x hC_M (by omega) (fun r6 z6 w6_0 => ?_)) (by decide))
    exact jr.ireturn rfl rfl rfl (q _ (by omega) (by unfold hsN; rw [if_pos (by omega)]; rw [← w5_0.1]; exact w6_0))
  · refine jr.tsw_k 2 rfl h1 rfl ?_
    refine jr.aload_n rfl rfl ?_
    refine jr.getf (i := 7) (x := S) (v := .ref (S.toNat)) rfl rfl (Nat.lt_trans (kx_18 k_t).1 (by decide)) (kx_18 k_t).2 (by decide) rfl rfl g_S (jval_mut rfl (kn_18_7 k_t)) ?_
    refine jr.iload_n rfl rfl ?_
    refine jr.bipush rfl (by decide) ?_
    refine jr.iadd rfl ?_
    refine jr.iconst rfl ?_
    refine jr_v rfl rfl (Or.inl rfl) rfl rfl (Nat.lt_trans (kx_33 k_S).1 (by decide)) (kx_33 k_S).2 ⟨rfl, Nat.le_of_ble_eq_true rfl, Nat.le_of_ble_eq_true rfl⟩ rfl (jc.deep (c_Packet_numberFrom_h hC_M k_S (by omega) p0 (fun r8 z8 w8_0 => ?_)) (by decide))
    refine jr.ldc2 (x := 8191) rfl rfl (by decide) ?_
    refine jr.land rfl ?_
    have b9 : jl_and r8 8191 = r8 % 8192 := jl_and_mask 13 (by decide) (by omega) (by omega)
    generalize jl_and r8 8191 = v9 at b9 ⊢
    refine jr.lconst (x := 0) rfl (by decide) ?_
    refine jr.lcmp_eq rfl rfl rfl (by omega) (by omega) (fun h93 => ?_) (fun h93 => ?_)
    · refine jr.aload_n rfl rfl ?_
      refine jr.getf (i := 7) (x := S) (v := .ref (S.toNat)) rfl rfl (Nat.lt_trans (kx_18 k_t).1 (by decide)) (kx_18 k_t).2 (by decide) rfl rfl g_S (jval_mut rfl (kn_18_7 k_t)) ?_
      refine jr.iload_n rfl rfl ?_
      refine jr.bipush rfl (by decide) ?_
      refine jr.iadd rfl ?_
      refine jr_v rfl rfl (Or.inl rfl) rfl rfl (Nat.lt_trans (kx_33 k_S).1 (by decide)) (kx_33 k_S).2 ⟨rfl, Nat.le_of_ble_eq_true rfl, Nat.le_of_ble_eq_true rfl⟩ rfl (jc.deep (c_Packet_byteAt_h hC_M k_S (by omega) g_N p0 (fun r11 z11 w11_0 => ?_)) (by decide))
      refine jr.iconst rfl ?_
      refine jr_s rfl rfl (Or.inl rfl) ⟨Nat.le_of_ble_eq_true rfl, Nat.le_of_ble_eq_true rfl⟩ rfl rfl (jc.deep (c_Headers_kindOfNext_x hC_M (by omega) (by omega) (fun r12 z12 w12_0 => ?_)) (by decide))
      exact jr.ireturn rfl rfl rfl (q _ (by omega) (by unfold hsN; rw [if_neg (by omega), if_pos (by omega)]; rw [if_neg (by omega), ← w11_0.1]; exact w12_0))
    · refine jr.bipush rfl (by decide) ?_
      refine jr.goto rfl rfl ?_
      exact jr.ireturn rfl rfl rfl (q _ (by omega) (by unfold hsN; rw [if_neg (by omega), if_pos (by omega)]; rw [if_pos (by omega)]))
  · refine jr.tsw_k 3 rfl h1 rfl ?_
    refine jr.aload_n rfl rfl ?_
    refine jr.getf (i := 7) (x := S) (v := .ref (S.toNat)) rfl rfl (Nat.lt_trans (kx_18 k_t).1 (by decide)) (kx_18 k_t).2 (by decide) rfl rfl g_S (jval_mut rfl (kn_18_7 k_t)) ?_
    refine jr.iload_n rfl rfl ?_
    refine jr.iconst rfl ?_
    refine jr.iadd rfl ?_
    refine jr_v rfl rfl (Or.inl rfl) rfl rfl (Nat.lt_trans (kx_33 k_S).1 (by decide)) (kx_33 k_S).2 ⟨rfl, Nat.le_of_ble_eq_true rfl, Nat.le_of_ble_eq_true rfl⟩ rfl (jc.deep (c_Packet_byteAt_h hC_M k_S (by omega) g_N p0 (fun r14 z14 w14_0 => ?_)) (by decide))
    refine jr.iconst rfl ?_
    refine jr_s rfl rfl (Or.inl rfl) ⟨Nat.le_of_ble_eq_true rfl, Nat.le_of_ble_eq_true rfl⟩ rfl rfl (jc.deep (c_Headers_kindOfNext_x hC_M (by omega) (by omega) (fun r15 z15 w15_0 => ?_)) (by decide))
    exact jr.ireturn rfl rfl rfl (q _ (by omega) (by unfold hsN; rw [if_neg (by omega), if_neg (by omega), if_pos (by omega)]; rw [← w14_0.1]; exact w15_0))
  · refine jr.tsw_k 4 rfl h1 rfl ?_
    refine jr.aload_n rfl rfl ?_
    refine jr.getf (i := 7) (x := S) (v := .ref (S.toNat)) rfl rfl (Nat.lt_trans (kx_18 k_t).1 (by decide)) (kx_18 k_t).2 (by decide) rfl rfl g_S (jval_mut rfl (kn_18_7 k_t)) ?_
    refine jr.iload_n rfl rfl ?_
    refine jr_v rfl rfl (Or.inl rfl) rfl rfl (Nat.lt_trans (kx_33 k_S).1 (by decide)) (kx_33 k_S).2 ⟨rfl, Nat.le_of_ble_eq_true rfl, Nat.le_of_ble_eq_true rfl⟩ rfl (jc.deep (c_Packet_byteAt_h hC_M k_S (by omega) g_N p0 (fun r17 z17 w17_0 => ?_)) (by decide))
    refine jr.iconst rfl ?_
    refine jr_s rfl rfl (Or.inl rfl) ⟨Nat.le_of_ble_eq_true rfl, Nat.le_of_ble_eq_true rfl⟩ rfl rfl (jc.deep (c_Headers_kindOfNext_x hC_M (by omega) (by omega) (fun r18 z18 w18_0 => ?_)) (by decide))
    exact jr.ireturn rfl rfl rfl (q _ (by omega) (by unfold hsN; rw [if_neg (by omega), if_neg (by omega), if_neg (by omega), if_pos (by omega)]; rw [← w17_0.1]; exact w18_0))
  · refine jr.tsw_k 5 rfl h1 rfl ?_
    refine jr.aload_n rfl rfl ?_
    refine jr.getf (i := 7) (x := S) (v := .ref (S.toNat)) rfl rfl (Nat.lt_trans (kx_18 k_t).1 (by decide)) (kx_18 k_t).2 (by decide) rfl rfl g_S (jval_mut rfl (kn_18_7 k_t)) ?_
    refine jr.iload_n rfl rfl ?_
    refine jr_v rfl rfl (Or.inl rfl) rfl rfl (Nat.lt_trans (kx_33 k_S).1 (by decide)) (kx_33 k_S).2 ⟨rfl, Nat.le_of_ble_eq_true rfl, Nat.le_of_ble_eq_true rfl⟩ rfl (jc.deep (c_Packet_byteAt_h hC_M k_S (by omega) g_N p0 (fun r20 z20 w20_0 => ?_)) (by decide))
    refine jr.iconst rfl ?_
    refine jr_s rfl rfl (Or.inl rfl) ⟨Nat.le_of_ble_eq_true rfl, Nat.le_of_ble_eq_true rfl⟩ rfl rfl (jc.deep (c_Headers_kindOfNext_x hC_M (by omega) (by omega) (fun r21 z21 w21_0 => ?_)) (by decide))
    exact jr.ireturn rfl rfl rfl (q _ (by omega) (by unfold hsN; rw [if_neg (by omega), if_neg (by omega), if_neg (by omega), if_pos (by omega)]; rw [← w20_0.1]; exact w21_0))
  · refine jr.tsw_k 6 rfl h1 rfl ?_
    refine jr.aload_n rfl rfl ?_
    refine jr.getf (i := 7) (x := S) (v := .ref (S.toNat)) rfl rfl (Nat.lt_trans (kx_18 k_t).1 (by decide)) (kx_18 k_t).2 (by decide) rfl rfl g_S (jval_mut rfl (kn_18_7 k_t)) ?_
    refine jr.iload_n rfl rfl ?_
    refine jr.iconst rfl ?_
    refine jr.iadd rfl ?_
    refine jr.iconst rfl ?_
    refine jr_v rfl rfl (Or.inl rfl) rfl rfl (Nat.lt_trans (kx_33 k_S).1 (by decide)) (kx_33 k_S).2 ⟨rfl, Nat.le_of_ble_eq_true rfl, Nat.le_of_ble_eq_true rfl⟩ rfl (jc.deep (c_Packet_numberFrom_h hC_M k_S (by omega) p0 (fun r23 z23 w23_0 => ?_)) (by decide))
    refine jr.iconst rfl ?_
    refine jr.lshr rfl ?_
    have b24 : jl_shr r23 3 = r23 / 8 := jl_shr_ex 3 (by decide) (by omega) (by omega)
    generalize jl_shr r23 3 = v24 at b24 ⊢
    refine jr.lconst (x := 0) rfl (by decide) ?_
    refine jr.lcmp_eq rfl rfl rfl (by omega) (by omega) (fun h160 => ?_) (fun h160 => ?_)
    · refine jr.aload_n rfl rfl ?_
      refine jr.getf (i := 7) (x := S) (v := .ref (S.toNat)) rfl rfl (Nat.lt_trans (kx_18 k_t).1 (by decide)) (kx_18 k_t).2 (by decide) rfl rfl g_S (jval_mut rfl (kn_18_7 k_t)) ?_
      refine jr.iload_n rfl rfl ?_
      refine jr_v rfl rfl (Or.inl rfl) rfl rfl (Nat.lt_trans (kx_33 k_S).1 (by decide)) (kx_33 k_S).2 ⟨rfl, Nat.le_of_ble_eq_true rfl, Nat.le_of_ble_eq_true rfl⟩ rfl (jc.deep (c_Packet_byteAt_h hC_M k_S (by omega) g_N p0 (fun r26 z26 w26_0 => ?_)) (by decide))
      refine jr.iconst rfl ?_
      refine jr_s rfl rfl (Or.inl rfl) ⟨Nat.le_of_ble_eq_true rfl, Nat.le_of_ble_eq_true rfl⟩ rfl rfl (jc.deep (c_Headers_kindOfNext_x hC_M (by omega) (by omega) (fun r27 z27 w27_0 => ?_)) (by decide))
      exact jr.ireturn rfl rfl rfl (q _ (by omega) (by unfold hsN; rw [if_neg (by omega), if_neg (by omega), if_neg (by omega), if_neg (by omega), if_pos (by omega)]; rw [if_neg (by omega), ← w26_0.1]; exact w27_0))
    · refine jr.bipush rfl (by decide) ?_
      refine jr.goto rfl rfl ?_
      exact jr.ireturn rfl rfl rfl (q _ (by omega) (by unfold hsN; rw [if_neg (by omega), if_neg (by omega), if_neg (by omega), if_neg (by omega), if_pos (by omega)]; rw [if_pos (by omega)]))
  · refine jr.tsw_k 7 rfl h1 rfl ?_
    refine jr.aload_n rfl rfl ?_
    refine jr.aload_n rfl rfl ?_
    refine jr.getf (i := 7) (x := S) (v := .ref (S.toNat)) rfl rfl (Nat.lt_trans (kx_18 k_t).1 (by decide)) (kx_18 k_t).2 (by decide) rfl rfl g_S (jval_mut rfl (kn_18_7 k_t)) ?_
    refine jr.iload_n rfl rfl ?_
    refine jr_v rfl rfl (Or.inl rfl) rfl rfl (Nat.lt_trans (kx_33 k_S).1 (by decide)) (kx_33 k_S).2 ⟨rfl, Nat.le_of_ble_eq_true rfl, Nat.le_of_ble_eq_true rfl⟩ rfl (jc.deep (c_Packet_byteAt_h hC_M k_S (by omega) g_N p0 (fun r29 z29 w29_0 => ?_)) (by decide))
    refine jr.iload_n rfl rfl ?_
    have k30_S : kd (S).toNat = 33 := (congrArg (fun z : Int => kd z.toNat) g_S).symm.trans (CI.x hC_M k_t 7 rfl (by decide))
    refine jr_v rfl rfl (Or.inl rfl) rfl rfl (Nat.lt_trans (kx_18 k_t).1 (by decide)) (kx_18 k_t).2 ⟨rfl, Nat.le_of_ble_eq_true rfl, Nat.le_of_ble_eq_true rfl⟩ rfl (jc.deep (c_Headers_quotedKind_x hC_M k_t (by omega) (by omega) g_S g_N p0 (fun r30 z30 w30_0 => ?_)) (by decide))
    exact jr.ireturn rfl rfl rfl (q _ (by omega) (by unfold hsN; rw [if_neg (by omega), if_neg (by omega), if_neg (by omega), if_neg (by omega), if_neg (by omega), if_pos (by omega)]; rw [← w29_0.1]; exact w30_0))
  · refine jr.tsw_k 8 rfl h1 rfl ?_
    refine jr.bipush rfl (by decide) ?_
    exact jr.ireturn rfl rfl rfl (q _ (by omega) (by unfold hsN; rw [if_neg (by omega), if_neg (by omega), if_neg (by omega), if_neg (by omega), if_neg (by omega), if_neg (by omega)]))
  · refine jr.tsw_k 9 rfl h1 rfl ?_
    refine jr.bipush rfl (by decide) ?_
    exact jr.ireturn rfl rfl rfl (q _ (by omega) (by unfold hsN; rw [if_neg (by omega), if_neg (by omega), if_neg (by omega), if_neg (by omega), if_neg (by omega), if_neg (by omega)]))
  · refine jr.tsw_k 10 rfl h1 rfl ?_
    refine jr.aload_n rfl rfl ?_
    have k31 : kd (S).toNat = 33 := ((congrArg (fun z : Int => kd z.toNat) (show M t 7 = S from g_S)).symm.trans (CI.x hC_M k_t 7 rfl (by decide)))
    refine jr.getf (i := 7) (x := S) (v := .ref (S.toNat)) rfl rfl (Nat.lt_trans (kx_18 k_t).1 (by decide)) (kx_18 k_t).2 (by decide) rfl rfl g_S (jval_mut rfl (kn_18_7 k_t)) ?_
    refine jr.iload_n rfl rfl ?_
    refine jr.iconst rfl ?_
    refine jr.iadd rfl ?_
    refine jr.iconst rfl ?_
    refine jr_v rfl rfl (Or.inl rfl) rfl rfl (Nat.lt_trans (kx_33 k31).1 (by decide)) (kx_33 k31).2 ⟨rfl, Nat.le_of_ble_eq_true rfl, Nat.le_of_ble_eq_true rfl⟩ rfl (jc.deep (c_Packet_numberFrom_h hC_M k31 (by omega) p0 (fun r32 z32 w32_0 => ?_)) (by decide))
    refine jr.l2i rfl ?_
    refine jr_s rfl rfl (Or.inl rfl) ⟨Nat.le_of_ble_eq_true rfl, Nat.le_of_ble_eq_true rfl⟩ rfl rfl (jc.deep (c_Headers_kindOfLink_x hC_M (by omega) (fun r33 z33 w33_0 => ?_)) (by decide))
    exact jr.ireturn rfl rfl rfl (q _ (by omega) (by unfold hsN; rw [if_pos (by omega)]; rw [← w32_0.1]; exact w33_0))
  · refine jr.tsw_d rfl (by omega) (by omega) rfl ?_
    refine jr.bipush rfl (by decide) ?_
    exact jr.ireturn rfl rfl rfl (q _ (by omega) (by unfold hsN; rw [if_neg (by omega), if_neg (by omega), if_neg (by omega), if_neg (by omega), if_neg (by omega), if_neg (by omega)]))
noncomputable def hsB (f : Int → Int) (n k a z : Int) : Int := if hsN f n k a z = 11 ∧ n ≤ z then -1 else hsN f n k a z
theorem c_Headers_kindBehind_x {A : Nat → Option (Nat × (Nat → Int32))} {Q : Option Value → jm → Prop} {f : Int → Int} {M : jm} (hC_M : CI M) {t : Nat} (k_t : kd t = 18) {x : Int} (h_x : 0 ≤ x ∧ x ≤ 11) {y : Int} (h_y : 0 ≤ y ∧ y ≤ 400) {z : Int} (h_z : 0 ≤ z ∧ z ≤ 400) {S : Int} (g_S : M t 7 = S) {N : Int} (g_N : M ((S.toNat)) 1 = N) (p0 : BY8 M (S.toNat + 1) f) (p1 : y + hls x ≤ N) (q : ∀ (r : Int), (-1) ≤ r ∧ r ≤ 11 → (r = hsB f N x y z) → Q (some (.int (Int32.ofInt r))) M) : jc A 4 132 [.ref (t), .int (Int32.ofInt (x)), .int (Int32.ofInt (y)), .int (Int32.ofInt (z))] M Q := by
  refine jc_of (m := xm_132) rfl (Nat.le_of_ble_eq_true rfl) rfl ?_
  have k_S : kd S.toNat = 33 := (congrArg (fun z : Int => kd z.toNat) g_S).symm.trans (CI.x hC_M k_t 7 rfl (by decide))
  have b_N : (-1) ≤ N ∧ N ≤ 400 := by rw [← g_N]; exact (CI.r hC_M k_S (by decide) 1)
  have k_by : kd (S.toNat + 1) = 34 := (kf_33_0 k_S).2
  refine jr.aload_n rfl rfl ?_
  refine jr.iload_n rfl rfl ?_
  refine jr.iload_n rfl rfl ?_
  refine jr.iload_n rfl rfl ?_
  have k1_S : kd (S).toNat = 33 := (congrArg (fun z : Int => kd z.toNat) g_S).symm.trans (CI.x hC_M k_t 7 rfl (by decide))
  refine jr_v rfl rfl (Or.inl rfl) rfl rfl (Nat.lt_trans (kx_18 k_t).1 (by decide)) (kx_18 k_t).2 ⟨rfl, Nat.le_of_ble_eq_true rfl, Nat.le_of_ble_eq_true rfl⟩ rfl (jc.deep (c_Headers_toldKind_x hC_M k_t (by omega) (by omega) (by omega) g_S g_N p0 (by omega) (fun r1 z1 w1_0 => ?_)) (by decide))
  refine jr.istore rfl (by decide) rfl ?_
  refine jr.iload rfl rfl ?_
  refine jr.bipush rfl (by decide) ?_
  refine jr.icmp_ne rfl rfl (by omega) (by omega) (fun h13 => ?_) (fun h13 => ?_)
  · have sx13 : r1 ≤ (10 : Int) := by omega
    refine jr.iload rfl rfl ?_
    exact jr.ireturn rfl rfl rfl (q _ (by omega) (by unfold hsB; first | (rw [if_pos (by omega)]) | (rw [if_neg (by omega)]; omega)))
  · refine jr.iload_n rfl rfl ?_
    refine jr.aload_n rfl rfl ?_
    have k2 : kd (S).toNat = 33 := ((congrArg (fun z : Int => kd z.toNat) (show M t 7 = S from g_S)).symm.trans (CI.x hC_M k_t 7 rfl (by decide)))
    refine jr.getf (i := 7) (x := S) (v := .ref (S.toNat)) rfl rfl (Nat.lt_trans (kx_18 k_t).1 (by decide)) (kx_18 k_t).2 (by decide) rfl rfl g_S (jval_mut rfl (kn_18_7 k_t)) ?_
    refine jr.getf (i := 1) (x := N) (v := .int (Int32.ofInt (N))) rfl rfl (Nat.lt_trans (kx_33 k2).1 (by decide)) (kx_33 k2).2 (by decide) rfl rfl g_N rfl ?_
    refine jr.icmp_lt rfl rfl (by omega) (by omega) (fun h24 => ?_) (fun h24 => ?_)
    · refine jr.iload rfl rfl ?_
      exact jr.ireturn rfl rfl rfl (q _ (by omega) (by unfold hsB; first | (rw [if_pos (by omega)]) | (rw [if_neg (by omega)]; omega)))
    · refine jr.iconst rfl ?_
      refine jr.goto rfl rfl ?_
      exact jr.ireturn rfl rfl rfl (q _ (by omega) (by unfold hsB; first | (rw [if_pos (by omega)]) | (rw [if_neg (by omega)]; omega)))
end
section
/-! ===== headers: all of them ===== -/
/-- kind and place of the n-th header -/
noncomputable def hst (f : Int → Int) (N : Int) : Nat → Int × Int
  | 0 => (0, 0)
  | n + 1 => (hsB f N (hst f N n).1 (hst f N n).2 ((hst f N n).2 + hsZ f N (hst f N n).1 (hst f N n).2), (hst f N n).2 + hsZ f N (hst f N n).1 (hst f N n).2)
noncomputable def hX (f : Int → Int) (N i : Int) : Int := (hst f N i.toNat).1
noncomputable def hY (f : Int → Int) (N i : Int) : Int := (hst f N i.toNat).2
noncomputable def hZ (f : Int → Int) (N i : Int) : Int := hsZ f N (hX f N i) (hY f N i)
noncomputable def hF (f : Int → Int) (N i : Int) : Int := hsF f N i (bkf (hX f N) i) (hX f N i) (hY f N i)
noncomputable def hW (f : Int → Int) (N i : Int) : Int := hsW f N i (bkf (hX f N) i) (hX f N i) (hY f N i)
theorem hst_s {f : Int → Int} {N i : Int} (h : 0 ≤ i) : hX f N (i + 1) = hsB f N (hX f N i) (hY f N i) (hY f N i + hZ f N i) ∧ hY f N (i + 1) = hY f N i + hZ f N i := by
  unfold hX hY hZ hX hY
  rw [show (i + 1).toNat = i.toNat + 1 by omega]
  exact ⟨rfl, rfl⟩
theorem hX_0 (f : Int → Int) (N : Int) : hX f N 0 = 0 := rfl
theorem hY_0 (f : Int → Int) (N : Int) : hY f N 0 = 0 := rfl
/-- there is an i-th header -/
noncomputable def hok (f : Int → Int) (N i : Int) : Prop := hX f N i ≠ -1 ∧ hF f N i = 0
/-- the packet has C headers -/
noncomputable def HE (f : Int → Int) (N C : Int) : Prop := (0 ≤ C ∧ C ≤ 12) ∧ (∀ i : Int, 0 ≤ i → i < C → hok f N i) ∧ ¬ hok f N C
theorem HE.u {f : Int → Int} {N C D : Int} (h : HE f N C) (h2 : HE f N D) : C = D := by
  have a := h.1
  have b := h2.1
  rcases (show C < D ∨ C = D ∨ D < C by omega) with q | q | q
  · exact absurd (h2.2.1 C a.1 q) h.2.2
  · exact q
  · exact absurd (h.2.1 D b.1 q) h2.2.2
noncomputable def HR (M : jm) (t : Nat) (f : Int → Int) (N n : Int) : Prop := ∀ i : Int, 0 ≤ i → i < n → hok f N i ∧ M (t + 1) i = hX f N i ∧ M (t + 2) i = hY f N i ∧ M (t + 3) i = hZ f N i
noncomputable def HQ (M : jm) (t : Nat) (f : Int → Int) (N : Int) : Prop := (0 ≤ M t 3 ∧ M t 3 ≤ 12) ∧ HR M t f N (M t 3) ∧ ((hX f N (M t 3) = -1 ∧ M t 4 = 0 ∧ M t 5 = -1 ∧ M t 6 = -1) ∨ (hX f N (M t 3) ≠ -1 ∧ hF f N (M t 3) ≠ 0 ∧ M t 4 = hF f N (M t 3) ∧ M t 5 = hW f N (M t 3) ∧ M t 6 = hX f N (M t 3)))
theorem HQ.e {M : jm} {t : Nat} {f : Int → Int} {N : Int} (h : HQ M t f N) : HE f N (M t 3) := ⟨h.1, fun i h0 h1 => (h.2.1 i h0 h1).1, fun q => by
  rcases h.2.2 with g | g
  · exact q.1 g.1
  · exact g.2.1 q.2⟩
noncomputable def HP (M : jm) (t : Nat) (f : Int → Int) (N k a n : Int) : Prop := (M t 4 = 0 ∧ M t 3 = n ∧ M t 5 = -1 ∧ M t 6 = -1 ∧ HR M t f N n ∧ k = hX f N n ∧ a = hY f N n) ∨ (M t 4 ≠ 0 ∧ HQ M t f N)
theorem HP.z {M : jm} {t : Nat} {f : Int → Int} {N : Int} (h3 : M t 3 = 0) (h4 : M t 4 = 0) (h5 : M t 5 = -1) (h6 : M t 6 = -1) : HP M t f N 0 0 0 := Or.inl ⟨h4, h3, h5, h6, fun i h0 h1 => absurd h1 (by omega), rfl, rfl⟩
theorem bkf_e {g g2 : Int → Int} {n : Int} (h : ∀ i : Int, 0 ≤ i → i < n → g i = g2 i) : bkf g n = bkf g2 n := by
  unfold bkf
  by_cases q : 1 ≤ n
  · rw [if_pos q, if_pos q, h (n - 1) (by omega) (by omega)]
  · rw [if_neg q, if_neg q]
theorem hsF_12 {f : Int → Int} {n c bk k a : Int} (h : 12 ≤ c) : hsF f n c bk k a = 6 := by
  unfold hsF
  rw [if_pos h]
theorem HP.q {M : jm} {t : Nat} {f : Int → Int} {N k a n : Int} (h : HP M t f N k a n) (h0 : 0 ≤ n ∧ n ≤ 13) (he : 12 < n ∨ M t 4 ≠ 0 ∨ k = -1) : HQ M t f N := by
  rcases h with ⟨g4, g3, g5, g6, gR, gk, ga⟩ | ⟨g4, g⟩
  · by_cases q : 12 < n
    · have hh := (gR 12 (by omega) (by omega)).1.2
      have h6 : hF f N 12 = 6 := hsF_12 (by omega)
      omega
    · have hk : k = -1 := by omega
      refine ⟨by omega, by rw [g3]; exact gR, Or.inl ⟨by rw [g3]; omega, g4, g5, g6⟩⟩
  · exact g
theorem HR.fr {W : List (Nat × Nat)} {T M : jm} {t : Nat} {f : Int → Int} {N n : Int} (h : HR T t f N n) (k : kd t = 18) (g : FR W T M) (h1 : ksep W [(19, 1000), (20, 1000), (21, 1000)] = true) : HR M t f N n := by
  intro x h0 hx
  have q1 := (kf_18_0 k).2
  have q2 := (kf_18_1 k).2
  have q3 := (kf_18_2 k).2
  rw [g.s h1 q1 1000 (by decide) x (Or.inl rfl), g.s h1 q2 1000 (by decide) x (Or.inl rfl), g.s h1 q3 1000 (by decide) x (Or.inl rfl)]
  exact h x h0 hx
theorem HP.f {W : List (Nat × Nat)} {M M1 : jm} {t : Nat} {f : Int → Int} {N k a n k2 a2 n2 c r G H : Int} (h : HP M t f N k a n) (h4 : M t 4 = 0) (hn : 0 ≤ n ∧ n ≤ 12) (hkn : k ≠ -1) (hk : kd t = 18) (g : FR W M M1) (h1 : ksep W [(18, 3), (19, 1000), (20, 1000), (21, 1000)] = true) (hc : M t 3 = c) (w : (hsF f N c (bkf (M (t + 1)) c) k a ≠ 0 ∧ M1 t 4 = hsF f N c (bkf (M (t + 1)) c) k a ∧ M1 t 5 = hsW f N c (bkf (M (t + 1)) c) k a ∧ M1 t 6 = k) ∨ (hsF f N c (bkf (M (t + 1)) c) k a = 0 ∧ M1 t 4 = 0 ∧ r = hsZ f N k a ∧ M1 t 5 = G ∧ M1 t 6 = H)) (hw : M1 t 4 ≠ 0) : HP M1 t f N k2 a2 n2 := by
  rcases w with w | w
  · rcases h with ⟨g4, g3, g5, g6, gR, gk, ga⟩ | ⟨g4, gg⟩
    · have ecn : c = n := by omega
      subst ecn
      have eb : bkf (M (t + 1)) c = bkf (hX f N) c := bkf_e (fun i h0 hi => (gR i h0 hi).2.1)
      have e3 : M1 t 3 = c := by rw [g.s h1 hk 3 (by decide) 3 (Or.inr rfl)]; exact hc
      rw [eb, gk, ga] at w
      refine Or.inr ⟨hw, ⟨by omega, ?_, ?_⟩⟩
      · rw [e3]
        exact gR.fr hk g (by
          have := h1
          unfold ksep at this ⊢
          rw [List.all_eq_true] at this ⊢
          intro x hx
          have q := this x hx
          rw [List.all_cons, Bool.and_eq_true] at q
          exact q.2)
      · rw [e3]
        exact Or.inr ⟨by rw [← gk]; exact hkn, w.1, w.2.1, w.2.2.1, w.2.2.2⟩
    · exact absurd h4 g4
  · exact absurd w.2.1 hw
theorem HP.s {W : List (Nat × Nat)} {M M1 : jm} {t : Nat} {f : Int → Int} {N k a n k2 c c1 r G H : Int} (h : HP M t f N k a n) (h4 : M t 4 = 0) (hn : 0 ≤ n ∧ n ≤ 12) (hkn : k ≠ -1) (hk : kd t = 18) (g : FR W M M1) (h1 : ksep W [(18, 3), (19, 1000), (20, 1000), (21, 1000)] = true) (hc : M t 3 = c) (hG : M t 5 = G) (hH : M t 6 = H) (w : (hsF f N c (bkf (M (t + 1)) c) k a ≠ 0 ∧ M1 t 4 = hsF f N c (bkf (M (t + 1)) c) k a ∧ M1 t 5 = hsW f N c (bkf (M (t + 1)) c) k a ∧ M1 t 6 = k) ∨ (hsF f N c (bkf (M (t + 1)) c) k a = 0 ∧ M1 t 4 = 0 ∧ r = hsZ f N k a ∧ M1 t 5 = G ∧ M1 t 6 = H)) (hw : M1 t 4 = 0) (hb : k2 = hsB f N k a (a + r)) (e1 : c1 = c) : HP (ju (ju (ju (ju M1 (t + 1) c1 k) (t + 2) c1 a) (t + 3) c1 r) t 3 (c1 + 1)) t f N k2 (a + r) (n + 1) := by
  subst e1
  rcases w with w | w
  · exact absurd hw (by rw [w.2.1]; exact w.1)
  · rcases h with ⟨g4, g3, g5, g6, gR, gk, ga⟩ | ⟨g4, gg⟩
    · have ecn : c1 = n := by omega
      subst ecn
      have eb : bkf (M (t + 1)) c1 = bkf (hX f N) c1 := bkf_e (fun i h0 hi => (gR i h0 hi).2.1)
      have e3 : M1 t 3 = c1 := by rw [g.s h1 hk 3 (by decide) 3 (Or.inr rfl)]; exact hc
      rw [eb] at w
      have gR1 : HR M1 t f N c1 := gR.fr hk g (by
          have := h1
          unfold ksep at this ⊢
          rw [List.all_eq_true] at this ⊢
          intro x hx
          have q := this x hx
          rw [List.all_cons, Bool.and_eq_true] at q
          exact q.2)
      obtain ⟨s1, s2⟩ := hst_s (f := f) (N := N) (i := c1) (by omega)
      have hz : r = hZ f N c1 := by rw [w.2.2.1, gk, ga]; rfl
      have ho : hok f N c1 := ⟨by rw [← gk]; exact hkn, by rw [gk, ga] at w; exact w.1⟩
      refine Or.inl ⟨?_, ju_same _ _ _ _, ?_, ?_, ?_, ?_, ?_⟩
      · rw [ju_i _ _ (by decide), ju_c _ _ (by omega), ju_c _ _ (by omega), ju_c _ _ (by omega)]; exact hw
      · rw [ju_i _ _ (by decide), ju_c _ _ (by omega), ju_c _ _ (by omega), ju_c _ _ (by omega)]; omega
      · rw [ju_i _ _ (by decide), ju_c _ _ (by omega), ju_c _ _ (by omega), ju_c _ _ (by omega)]; omega
      · intro i h0 hi
        by_cases e : i = c1
        · subst e
          refine ⟨ho, ?_, ?_, ?_⟩
          · rw [ju_c _ _ (by omega), ju_c _ _ (by omega), ju_c _ _ (by omega), ju_same]; exact gk
          · rw [ju_c _ _ (by omega), ju_c _ _ (by omega), ju_same]; exact ga
          · rw [ju_c _ _ (by omega), ju_same]; exact hz
        · have q := gR1 i h0 (by omega)
          refine ⟨q.1, ?_, ?_, ?_⟩
          · rw [ju_c _ _ (by omega), ju_c _ _ (by omega), ju_c _ _ (by omega), ju_i _ _ e]; exact q.2.1
          · rw [ju_c _ _ (by omega), ju_c _ _ (by omega), ju_i _ _ e, ju_c _ _ (by omega)]; exact q.2.2.1
          · rw [ju_c _ _ (by omega), ju_i _ _ e, ju_c _ _ (by omega), ju_c _ _ (by omega)]; exact q.2.2.2
      · rw [s1, hb, hz, gk, ga]
      · rw [s2, hz, ga]
    · exact absurd h4 g4
theorem hsF_z {f : Int → Int} {n c bk k a : Int} (h : hsF f n c bk k a = 0) : c < 12 ∧ a + hls k ≤ n ∧ a + hsZ f n k a ≤ n ∧ ¬ ((k = 2 ∨ k = 8) ∧ hsZ f n k a < 20) := by
  unfold hsF at h
  split at h
  · omega
  · split at h
    · omega
    · split at h
      · omega
      · split at h
        · omega
        · split at h
          · omega
          · split at h
            · omega
            · split at h
              · omega
              · omega
theorem hb_r {f : Int → Int} {n i : Int} (hf : ∀ i : Int, 0 ≤ i → i < 400 → 0 ≤ f i ∧ f i ≤ 255) (hn : n ≤ 400) : 0 ≤ hb f n i ∧ hb f n i ≤ 255 := by
  unfold hb
  split
  · exact hf i (by omega) (by omega)
  · omega
theorem hsZ_r {f : Int → Int} {n k a : Int} (hf : ∀ i : Int, 0 ≤ i → i < 400 → 0 ≤ f i ∧ f i ≤ 255) (hn : n ≤ 400) (hl : a + hls k ≤ n) : 0 ≤ hsZ f n k a ∧ (k ≠ 6 ∨ hsZ f n k a = 8) := by
  have h1 := hb_r hf hn (i := a)
  have h2 := hb_r hf hn (i := a + 12)
  have h3 := hb_r hf hn (i := a + 1)
  have h4 := hls_r k
  have h5 : k ≠ 6 ∨ hls k = 8 := by
    by_cases q : k = 6
    · subst q; exact Or.inr (by decide)
    · exact Or.inl q
  unfold hsZ
  (repeat' split) <;> omega
theorem hsR {M1 : jm} {t : Nat} {f : Int → Int} {N C bk k a r G H : Int} (w : (hsF f N C bk k a ≠ 0 ∧ M1 t 4 = hsF f N C bk k a ∧ M1 t 5 = hsW f N C bk k a ∧ M1 t 6 = k) ∨ (hsF f N C bk k a = 0 ∧ M1 t 4 = 0 ∧ r = hsZ f N k a ∧ M1 t 5 = G ∧ M1 t 6 = H)) (hf : ∀ i : Int, 0 ≤ i → i < 400 → 0 ≤ f i ∧ f i ≤ 255) (hN : N ≤ 400) (ha : 0 ≤ a) : M1 t 4 ≠ 0 ∨ (0 ≤ a + r ∧ a + r ≤ 400 ∧ a + hls k ≤ N ∧ (k ≠ 6 ∨ r = 8) ∧ (k ≠ 2 ∨ 20 ≤ r) ∧ C ≤ 11 ∧ 0 ≤ r) := by
  rcases w with w | w
  · exact Or.inl (by rw [w.2.1]; exact w.1)
  · have q := hsF_z w.1
    have q2 := hsZ_r hf hN q.2.1
    right
    rw [w.2.2.1]
    omega
/-- the headers of the bytes f of length N stand in t -/
noncomputable def HS (M : jm) (t : Nat) (f : Int → Int) (N : Int) : Prop := BY8 M ((M t 7).toNat + 1) f ∧ M (M t 7).toNat 1 = N ∧ (0 ≤ N ∧ N ≤ 400) ∧ HQ M t f N
theorem HS.mk {M : jm} {t : Nat} {f : Int → Int} {N S : Int} (hS : M t 7 = S) (hb : BY8 M (S.toNat + 1) f) (hn : M S.toNat 1 = N) (h0 : 0 ≤ N ∧ N ≤ 400) (hq : HQ M t f N) : HS M t f N := by
  subst hS
  exact ⟨hb, hn, h0, hq⟩
noncomputable def W_c_Headers_readAll_x : List (Nat × Nat) := [(18, 3), (18, 4), (18, 5), (18, 6), (18, 7), (19, 1000), (20, 1000), (21, 1000)]
theorem c_Headers_readAll_x_L45 {A : Nat → Option (Nat × (Nat → Int32))} {Q : Option Value → jm → Prop} {f : Int → Int} {T : jm} {t : Nat} (k_t : kd t = 18) {x : Nat} (k_x : kd x = 33) {N : Int} {S : Int} (q : ∀ (M' : jm), CI M' → FR W_c_Headers_readAll_x T M' → (HC M' t) → ((N = -1 ∧ M' t 3 = 0 ∧ M' t 4 = 2 ∧ M' t 5 = -1 ∧ M' t 6 = -1) ∨ (N ≠ -1 ∧ HS M' t f N)) → (M' t 7 = ((x : Nat) : Int)) → Q none M') : ∀ (nM : Nat) (M : jm) (k : Int) (a : Int) (n : Int), CI M → FR W_c_Headers_readAll_x T M → (-1) ≤ k ∧ k ≤ 11 → 0 ≤ a ∧ a ≤ 400 → 0 ≤ n ∧ n ≤ 13 → M t 7 = S → (0 ≤ N ∧ N ≤ 400) → (M ((S.toNat)) 1 = N) → (BY8 M (S.toNat + 1) f) → (HC M t) → ((M t 4 = 0 ∧ M t 3 = n ∧ M t 5 = -1 ∧ M t 6 = -1) ∨ M t 4 ≠ 0) → (HP M t f N k a n) → (S = ((x : Nat) : Int)) → 13 - n ≤ nM → jr A 4 xm_105 45 [(2, .int (Int32.ofInt (k))), (3, .int (Int32.ofInt (a))), (4, .int (Int32.ofInt (n))), (0, .ref (t)), (1, .ref (x))] [] M Q := by
  intro nM
  induction nM using Nat.strongRecOn with
  | ind nM ih =>
    intro M k a n hC_M ht_M h_k h_a h_n g_S hy0 hy1 hy2 hy3 hy4 hy5 hy6 hm
    have k_S : kd S.toNat = 33 := (congrArg (fun z : Int => kd z.toNat) g_S).symm.trans (CI.x hC_M k_t 7 rfl (by decide))
    have k_by : kd (S.toNat + 1) = 34 := (kf_33_0 k_S).2
    have b1 : 0 ≤ N ∧ N ≤ 400 := by omega
    obtain ⟨v2, e2⟩ : ∃ z_, M t 3 = z_ := ⟨_, rfl⟩
    have b2 : 0 ≤ v2 ∧ v2 ≤ 12 := by rw [← e2]; exact (CI.r hC_M k_t (by decide) 3)
    obtain ⟨v3, e3⟩ : ∃ z_, M t 4 = z_ := ⟨_, rfl⟩
    have b3 : (-2147483648) ≤ v3 ∧ v3 ≤ 2147483647 := by rw [← e3]; exact (CI.r hC_M k_t (by decide) 4)
    obtain ⟨v4, e4⟩ : ∃ z_, M t 5 = z_ := ⟨_, rfl⟩
    have b4 : (-2147483648) ≤ v4 ∧ v4 ≤ 2147483647 := by rw [← e4]; exact (CI.r hC_M k_t (by decide) 5)
    obtain ⟨v5, e5⟩ : ∃ z_, M t 6 = z_ := ⟨_, rfl⟩
    have b5 : (-2147483648) ≤ v5 ∧ v5 ≤ 2147483647 := by rw [← e5]; exact (CI.r hC_M k_t (by decide) 6)
    refine jr.iload rfl rfl ?_
    refine jr.bipush rfl (by decide) ?_
    refine jr.icmp_gt rfl rfl (by omega) (by omega) (fun h49 => ?_) (fun h49 => ?_)
    · exact jr.vreturn rfl rfl (q _ hC_M ht_M  hy3 (Or.inr ⟨by omega, HS.mk g_S hy2 hy1 hy0 (HP.q hy5 (by omega) (by omega))⟩) (by omega))
    · refine jr.aload_n rfl rfl ?_
      refine jr.getf (i := 4) (x := v3) (v := .int (Int32.ofInt (v3))) rfl rfl (Nat.lt_trans (kx_18 k_t).1 (by decide)) (kx_18 k_t).2 (by decide) rfl rfl e3 rfl ?_
      refine jr.if_ne rfl rfl (by omega) (fun h56 => ?_) (fun h56 => ?_)
      · exact jr.vreturn rfl rfl (q _ hC_M ht_M  hy3 (Or.inr ⟨by omega, HS.mk g_S hy2 hy1 hy0 (HP.q hy5 (by omega) (by omega))⟩) (by omega))
      · refine jr.iload_n rfl rfl ?_
        refine jr.iconst rfl ?_
        refine jr.icmp_eq rfl rfl (by omega) (by omega) (fun h61 => ?_) (fun h61 => ?_)
        · exact jr.vreturn rfl rfl (q _ hC_M ht_M  hy3 (Or.inr ⟨by omega, HS.mk g_S hy2 hy1 hy0 (HP.q hy5 (by omega) (by omega))⟩) (by omega))
        · have sx61 : (0 : Int) ≤ k := by omega
          refine jr.aload_n rfl rfl ?_
          refine jr.iload_n rfl rfl ?_
          refine jr.iload_n rfl rfl ?_
          have k6_S : kd (S).toNat = 33 := (congrArg (fun z : Int => kd z.toNat) g_S).symm.trans (CI.x hC_M k_t 7 rfl (by decide))
          refine jr_v rfl rfl (Or.inl rfl) rfl rfl (Nat.lt_trans (kx_18 k_t).1 (by decide)) (kx_18 k_t).2 ⟨rfl, Nat.le_of_ble_eq_true rfl, Nat.le_of_ble_eq_true rfl⟩ rfl (jc.deep (c_Headers_sizeIfRight_x hC_M (FR.rfl _ M) k_t (by omega) (by omega) g_S hy1 e3 e4 e5 e2 rfl hy2 (by omega) (by omega) (fun r6 M6 hC_M6 hf_M6 z6 w6_0 => ?_)) (by decide))
          have ht_M6 : FR W_c_Headers_readAll_x T M6 := FR.t ht_M hf_M6 (kw_sub rfl)
          have hq67 := hsR w6_0 (fun i h0 h1 => (hy2 i h0 h1).2) hy0.2 (by omega)
          refine jr.istore rfl (by decide) rfl ?_
          refine jr.aload_n rfl rfl ?_
          obtain ⟨v7, e7⟩ : ∃ z_, M6 t 4 = z_ := ⟨_, rfl⟩
          have b7 : (-2147483648) ≤ v7 ∧ v7 ≤ 2147483647 := by rw [← e7]; exact (CI.r hC_M6 k_t (by decide) 4)
          refine jr.getf (i := 4) (x := v7) (v := .int (Int32.ofInt (v7))) rfl rfl (Nat.lt_trans (kx_18 k_t).1 (by decide)) (kx_18 k_t).2 (by decide) rfl rfl e7 rfl ?_
          refine jr.if_ne rfl rfl (by omega) (fun h76 => ?_) (fun h76 => ?_)
          · refine jr.iinc rfl rfl (by decide) rfl ?_
            refine jr.goto rfl rfl ?_
            have e8 : M6 t 7 = S := (hf_M6.g k_t rfl).trans g_S
            have e9 : M6 ((S.toNat)) 1 = N := (hf_M6.g k6_S rfl).trans hy1
            have e10 : M6 t 3 = v2 := (hf_M6.g k_t rfl).trans e2
            obtain ⟨v11, e11⟩ : ∃ z_, M6 t 5 = z_ := ⟨_, rfl⟩
            have b11 : (-2147483648) ≤ v11 ∧ v11 ≤ 2147483647 := by rw [← e11]; exact (CI.r hC_M6 k_t (by decide) 5)
            obtain ⟨v12, e12⟩ : ∃ z_, M6 t 6 = z_ := ⟨_, rfl⟩
            have b12 : (-2147483648) ≤ v12 ∧ v12 ≤ 2147483647 := by rw [← e12]; exact (CI.r hC_M6 k_t (by decide) 6)
            refine jr.pick [2, 3, 0, 4, 5] rfl rfl ?_
            exact ih (nM - 1) (by omega) M6 k a (n + 1) hC_M6 ht_M6 (by omega) (by omega) (by omega) e8 (by omega) (by have hq0 : M6 ((S.toNat)) 1 = N := e9; omega) (BY8.fr hy2 k_by hf_M6 rfl) (HC.fr hy3 hf_M6 k_t rfl) (by have hq0 : M6 t 3 = v2 := e10; have hq1 : M6 t 4 = v7 := e7; have hq2 : M6 t 5 = v11 := e11; have hq3 : M6 t 6 = v12 := e12; omega) (HP.f hy5 (by omega) (by omega) (by omega) k_t hf_M6 rfl e2 w6_0 (by omega)) (by omega) (by omega)
          · refine jr.aload_n rfl rfl ?_
            have k13 := kf_18_0 k_t
            refine jr.getf (i := 0) (v := .ref (t + 1)) rfl rfl (Nat.lt_trans (kx_18 k_t).1 (by decide)) (kx_18 k_t).2 (by decide) rfl rfl rfl (jval_ref rfl k13.1) ?_
            refine jr.aload_n rfl rfl ?_
            have e14 : M6 t 3 = v2 := (hf_M6.g k_t rfl).trans e2
            refine jr.getf (i := 3) (x := v2) (v := .int (Int32.ofInt (v2))) rfl rfl (Nat.lt_trans (kx_18 k_t).1 (by decide)) (kx_18 k_t).2 (by decide) rfl rfl e14 rfl ?_
            refine jr.iload_n rfl rfl ?_
            refine jr.iast (i := v2) (x := k) rfl (Nat.lt_trans (kx_19 k13.2).1 (by decide)) (kx_19 k13.2).2 (by decide) (by omega) (by omega) ?_
            refine jr.aload_n rfl rfl ?_
            have k15 := kf_18_1 k_t
            refine jr.getf (i := 1) (v := .ref (t + 2)) rfl rfl (Nat.lt_trans (kx_18 k_t).1 (by decide)) (kx_18 k_t).2 (by decide) rfl rfl rfl (jval_ref rfl k15.1) ?_
            refine jr.aload_n rfl rfl ?_
            refine jr.getf (i := 3) (x := v2) (v := .int (Int32.ofInt (v2))) rfl rfl (Nat.lt_trans (kx_18 k_t).1 (by decide)) (kx_18 k_t).2 (by decide) rfl rfl ((ju_c _ _ (kd_ne (by rw [k_t, k13.2]; decide))).trans e14) rfl ?_
            refine jr.iload_n rfl rfl ?_
            refine jr.iast (i := v2) (x := a) rfl (Nat.lt_trans (kx_20 k15.2).1 (by decide)) (kx_20 k15.2).2 (by decide) (by omega) (by omega) ?_
            refine jr.aload_n rfl rfl ?_
            have k16 := kf_18_2 k_t
            refine jr.getf (i := 2) (v := .ref (t + 3)) rfl rfl (Nat.lt_trans (kx_18 k_t).1 (by decide)) (kx_18 k_t).2 (by decide) rfl rfl rfl (jval_ref rfl k16.1) ?_
            refine jr.aload_n rfl rfl ?_
            refine jr.getf (i := 3) (x := v2) (v := .int (Int32.ofInt (v2))) rfl rfl (Nat.lt_trans (kx_18 k_t).1 (by decide)) (kx_18 k_t).2 (by decide) rfl rfl ((ju_c _ _ (kd_ne (by rw [k_t, k15.2]; decide))).trans ((ju_c _ _ (kd_ne (by rw [k_t, k13.2]; decide))).trans e14)) rfl ?_
            refine jr.iload rfl rfl ?_
            refine jr.iast (i := v2) (x := r6) rfl (Nat.lt_trans (kx_21 k16.2).1 (by decide)) (kx_21 k16.2).2 (by decide) (by omega) (by omega) ?_
            refine jr.aload_n rfl rfl ?_
            refine jr.dup rfl rfl ?_
            refine jr.getf (i := 3) (x := v2) (v := .int (Int32.ofInt (v2))) rfl rfl (Nat.lt_trans (kx_18 k_t).1 (by decide)) (kx_18 k_t).2 (by decide) rfl rfl ((ju_c _ _ (kd_ne (by rw [k_t, k16.2]; decide))).trans ((ju_c _ _ (kd_ne (by rw [k_t, k15.2]; decide))).trans ((ju_c _ _ (kd_ne (by rw [k_t, k13.2]; decide))).trans e14))) rfl ?_
            refine jr.iconst rfl ?_
            refine jr.iadd rfl ?_
            refine jr.putf (i := 3) (x := (v2 + 1)) rfl rfl (Nat.lt_trans (kx_18 k_t).1 (by decide)) (kx_18 k_t).2 (by decide) rfl rfl rfl rfl rfl ?_
            refine jr.aload_n rfl rfl ?_
            refine jr.iload_n rfl rfl ?_
            refine jr.iload_n rfl rfl ?_
            refine jr.iload_n rfl rfl ?_
            refine jr.iload rfl rfl ?_
            refine jr.iadd rfl ?_
            have e18 : M6 t 7 = S := (hf_M6.g k_t rfl).trans g_S
            have k17_S : kd (S).toNat = 33 := (congrArg (fun z : Int => kd z.toNat) ((ju_i _ _ (by decide)).trans ((ju_c _ _ (kd_ne (by rw [k_t, k16.2]; decide))).trans ((ju_c _ _ (kd_ne (by rw [k_t, k15.2]; decide))).trans ((ju_c _ _ (kd_ne (by rw [k_t, k13.2]; decide))).trans e18))))).symm.trans (CI.x (show CI ((ju (ju (ju (ju M6 ((t + 1)) v2 k) ((t + 2)) v2 a) ((t + 3)) v2 r6) t 3 (v2 + 1))) from (CI.u (CI.u (CI.u (CI.u hC_M6 (i := v2) k13.2 (show (0 : Int) ≤ _ ∧ _ ≤ (11 : Int) from by omega) rfl) (i := v2) k15.2 (show (0 : Int) ≤ _ ∧ _ ≤ (400 : Int) from by omega) rfl) (i := v2) k16.2 (show (-400 : Int) ≤ _ ∧ _ ≤ (2048 : Int) from by omega) rfl) (i := 3) k_t (show (0 : Int) ≤ _ ∧ _ ≤ (12 : Int) from by omega) rfl)) k_t 7 rfl (by decide))
            have e19 : M6 ((S.toNat)) 1 = N := (hf_M6.g k17_S rfl).trans hy1
            refine jr_v rfl rfl (Or.inl rfl) rfl rfl (Nat.lt_trans (kx_18 k_t).1 (by decide)) (kx_18 k_t).2 ⟨rfl, Nat.le_of_ble_eq_true rfl, Nat.le_of_ble_eq_true rfl⟩ rfl (jc.deep (c_Headers_kindBehind_x (CI.u (CI.u (CI.u (CI.u hC_M6 (i := v2) k13.2 (show (0 : Int) ≤ _ ∧ _ ≤ (11 : Int) from by omega) rfl) (i := v2) k15.2 (show (0 : Int) ≤ _ ∧ _ ≤ (400 : Int) from by omega) rfl) (i := v2) k16.2 (show (-400 : Int) ≤ _ ∧ _ ≤ (2048 : Int) from by omega) rfl) (i := 3) k_t (show (0 : Int) ≤ _ ∧ _ ≤ (12 : Int) from by omega) rfl) k_t (by omega) (by omega) (by omega) ((ju_i _ _ (by decide)).trans ((ju_c _ _ (kd_ne (by rw [k_t, k16.2]; decide))).trans ((ju_c _ _ (kd_ne (by rw [k_t, k15.2]; decide))).trans ((ju_c _ _ (kd_ne (by rw [k_t, k13.2]; decide))).trans e18)))) ((ju_i _ _ (by decide)).trans ((ju_c _ _ (kd_ne (by rw [k17_S, k16.2]; decide))).trans ((ju_c _ _ (kd_ne (by rw [k17_S, k15.2]; decide))).trans ((ju_c _ _ (kd_ne (by rw [k17_S, k13.2]; decide))).trans e19)))) (BY8.fr (BY8.fr hy2 k_by hf_M6 rfl) k_by (FR.o (FR.o (FR.o (FR.o (FR.rfl [(18, 3), (19, 1000), (20, 1000), (21, 1000)] M6) k13.2 rfl) k15.2 rfl) k16.2 rfl) k_t rfl) rfl) (by omega) (fun r17 z17 w17_0 => ?_)) (by decide))
            refine jr.istore_n rfl (by decide) rfl ?_
            refine jr.iload_n rfl rfl ?_
            refine jr.iload rfl rfl ?_
            refine jr.iadd rfl ?_
            refine jr.istore_n rfl (by decide) rfl ?_
            refine jr.iinc rfl rfl (by decide) rfl ?_
            refine jr.goto rfl rfl ?_
            obtain ⟨v20, e20⟩ : ∃ z_, M6 t 5 = z_ := ⟨_, rfl⟩
            have b20 : (-2147483648) ≤ v20 ∧ v20 ≤ 2147483647 := by rw [← e20]; exact (CI.r hC_M6 k_t (by decide) 5)
            obtain ⟨v21, e21⟩ : ∃ z_, M6 t 6 = z_ := ⟨_, rfl⟩
            have b21 : (-2147483648) ≤ v21 ∧ v21 ≤ 2147483647 := by rw [← e21]; exact (CI.r hC_M6 k_t (by decide) 6)
            refine jr.pick [2, 1, 0, 4, 5] rfl rfl ?_
            exact ih (nM - 1) (by omega) ((ju (ju (ju (ju M6 ((t + 1)) v2 k) ((t + 2)) v2 a) ((t + 3)) v2 r6) t 3 (v2 + 1))) r17 (a + r6) (n + 1) (CI.u (CI.u (CI.u (CI.u hC_M6 (i := v2) k13.2 (show (0 : Int) ≤ _ ∧ _ ≤ (11 : Int) from by omega) rfl) (i := v2) k15.2 (show (0 : Int) ≤ _ ∧ _ ≤ (400 : Int) from by omega) rfl) (i := v2) k16.2 (show (-400 : Int) ≤ _ ∧ _ ≤ (2048 : Int) from by omega) rfl) (i := 3) k_t (show (0 : Int) ≤ _ ∧ _ ≤ (12 : Int) from by omega) rfl) (FR.o (FR.o (FR.o (FR.o ht_M6 k13.2 rfl) k15.2 rfl) k16.2 rfl) k_t rfl) (by omega) (by omega) (by omega) ((ju_i _ _ (by decide)).trans ((ju_c _ _ (kd_ne (by rw [k_t, k16.2]; decide))).trans ((ju_c _ _ (kd_ne (by rw [k_t, k15.2]; decide))).trans ((ju_c _ _ (kd_ne (by rw [k_t, k13.2]; decide))).trans e18)))) (by omega) (by have hq0 : (ju (ju (ju (ju M6 ((t + 1)) v2 k) ((t + 2)) v2 a) ((t + 3)) v2 r6) t 3 (v2 + 1)) ((S.toNat)) 1 = N := ((ju_i _ _ (by decide)).trans ((ju_c _ _ (kd_ne (by rw [k17_S, k16.2]; decide))).trans ((ju_c _ _ (kd_ne (by rw [k17_S, k15.2]; decide))).trans ((ju_c _ _ (kd_ne (by rw [k17_S, k13.2]; decide))).trans e19)))); omega) (BY8.fr (BY8.fr hy2 k_by hf_M6 rfl) k_by (FR.o (FR.o (FR.o (FR.o (FR.rfl [(18, 3), (19, 1000), (20, 1000), (21, 1000)] M6) k13.2 rfl) k15.2 rfl) k16.2 rfl) k_t rfl) rfl) (HC.st (HC.fr hy3 hf_M6 k_t rfl) k_t e14 (by omega) (by omega) (by omega)) (by have hq0 : (ju (ju (ju (ju M6 ((t + 1)) v2 k) ((t + 2)) v2 a) ((t + 3)) v2 r6) t 3 (v2 + 1)) t 3 = v2 + 1 := (ju_same _ _ _ _); have hq1 : (ju (ju (ju (ju M6 ((t + 1)) v2 k) ((t + 2)) v2 a) ((t + 3)) v2 r6) t 3 (v2 + 1)) t 4 = v7 := ((ju_i _ _ (by decide)).trans ((ju_c _ _ (kd_ne (by rw [k_t, k16.2]; decide))).trans ((ju_c _ _ (kd_ne (by rw [k_t, k15.2]; decide))).trans ((ju_c _ _ (kd_ne (by rw [k_t, k13.2]; decide))).trans e7)))); have hq2 : (ju (ju (ju (ju M6 ((t + 1)) v2 k) ((t + 2)) v2 a) ((t + 3)) v2 r6) t 3 (v2 + 1)) t 5 = v20 := ((ju_i _ _ (by decide)).trans ((ju_c _ _ (kd_ne (by rw [k_t, k16.2]; decide))).trans ((ju_c _ _ (kd_ne (by rw [k_t, k15.2]; decide))).trans ((ju_c _ _ (kd_ne (by rw [k_t, k13.2]; decide))).trans e20)))); have hq3 : (ju (ju (ju (ju M6 ((t + 1)) v2 k) ((t + 2)) v2 a) ((t + 3)) v2 r6) t 3 (v2 + 1)) t 6 = v21 := ((ju_i _ _ (by decide)).trans ((ju_c _ _ (kd_ne (by rw [k_t, k16.2]; decide))).trans ((ju_c _ _ (kd_ne (by rw [k_t, k15.2]; decide))).trans ((ju_c _ _ (kd_ne (by rw [k_t, k13.2]; decide))).trans e21)))); omega) (HP.s hy5 (by omega) (by omega) (by omega) k_t hf_M6 rfl e2 e4 e5 w6_0 (by omega) w17_0 (by omega)) (by omega) (by omega)
theorem c_Headers_readAll_x {A : Nat → Option (Nat × (Nat → Int32))} {Q : Option Value → jm → Prop} {f : Int → Int} {T : jm} {M : jm} (hC_M : CI M) (ht_M : FR W_c_Headers_readAll_x T M) {t : Nat} (k_t : kd t = 18) {x : Nat} (k_x : kd x = 33) {N : Int} (g_N : M x 1 = N) (p0 : BY8 M (x + 1) f) (q : ∀ (M' : jm), CI M' → FR W_c_Headers_readAll_x T M' → (HC M' t) → ((N = -1 ∧ M' t 3 = 0 ∧ M' t 4 = 2 ∧ M' t 5 = -1 ∧ M' t 6 = -1) ∨ (N ≠ -1 ∧ HS M' t f N)) → (M' t 7 = ((x : Nat) : Int)) → Q none M') : jc A 5 105 [.ref (t), .ref (x)] M Q := by
  have k_by : kd (x + 1) = 34 := (kf_33_0 k_x).2
  refine jc_of (m := xm_105) rfl (Nat.le_of_ble_eq_true rfl) rfl ?_
  have b_N : (-1) ≤ N ∧ N ≤ 400 := by rw [← g_N]; exact (CI.r hC_M k_x (by decide) 1)
  refine jr.aload_n rfl rfl ?_
  refine jr.aload_n rfl rfl ?_
  refine jr.putf (i := 7) (x := (((x : Nat) : Int))) rfl rfl (Nat.lt_trans (kx_18 k_t).1 (by decide)) (kx_18 k_t).2 (by decide) rfl rfl (jval_mut rfl (kn_18_7 k_t)) rfl rfl ?_
  refine jr.aload_n rfl rfl ?_
  refine jr.iconst rfl ?_
  refine jr.putf (i := 3) (x := 0) rfl rfl (Nat.lt_trans (kx_18 k_t).1 (by decide)) (kx_18 k_t).2 (by decide) rfl rfl rfl rfl rfl ?_
  refine jr.aload_n rfl rfl ?_
  refine jr.iconst rfl ?_
  refine jr.putf (i := 4) (x := 0) rfl rfl (Nat.lt_trans (kx_18 k_t).1 (by decide)) (kx_18 k_t).2 (by decide) rfl rfl rfl rfl rfl ?_
  refine jr.aload_n rfl rfl ?_
  refine jr.iconst rfl ?_
  refine jr.putf (i := 5) (x := (-1)) rfl rfl (Nat.lt_trans (kx_18 k_t).1 (by decide)) (kx_18 k_t).2 (by decide) rfl rfl rfl rfl rfl ?_
  refine jr.aload_n rfl rfl ?_
  refine jr.iconst rfl ?_
  refine jr.putf (i := 6) (x := (-1)) rfl rfl (Nat.lt_trans (kx_18 k_t).1 (by decide)) (kx_18 k_t).2 (by decide) rfl rfl rfl rfl rfl ?_
  refine jr.aload_n rfl rfl ?_
  refine jr_v rfl rfl (Or.inl rfl) rfl rfl (Nat.lt_trans (kx_33 k_x).1 (by decide)) (kx_33 k_x).2 ⟨rfl, Nat.le_of_ble_eq_true rfl, Nat.le_of_ble_eq_true rfl⟩ rfl (jc.deep (c_Packet_isThere (CI.u (CI.u (CI.u (CI.u (CI.w (v := ((x : Nat) : Int)) hC_M (i := 7) k_t (show (0 : Int) ≤ _ ∧ _ ≤ (597 : Int) from by have hk := kd_lt (a := (((x : Nat) : Int)).toNat) (by rw [(show kd (((x : Nat) : Int)).toNat = 33 from k_x)]; decide); omega) (show kd (((x : Nat) : Int)).toNat = 33 from k_x)) (i := 3) k_t (show (0 : Int) ≤ _ ∧ _ ≤ (12 : Int) from by omega) rfl) (i := 4) k_t (show (-2147483648 : Int) ≤ _ ∧ _ ≤ (2147483647 : Int) from by omega) rfl) (i := 5) k_t (show (-2147483648 : Int) ≤ _ ∧ _ ≤ (2147483647 : Int) from by omega) rfl) (i := 6) k_t (show (-2147483648 : Int) ≤ _ ∧ _ ≤ (2147483647 : Int) from by omega) rfl) k_x (fun r1 z1 w1_0 => ?_)) (by decide))
  have e2 : (ju (ju (ju (ju (ju M t 7 (((x : Nat) : Int))) t 3 0) t 4 0) t 5 (-1)) t 6 (-1)) x 1 = N := ((ju_i _ _ (by decide)).trans ((ju_i _ _ (by decide)).trans ((ju_i _ _ (by decide)).trans ((ju_i _ _ (by decide)).trans ((ju_i _ _ (by decide)).trans g_N)))))
  refine jr.if_ne rfl rfl (by omega) (fun h29 => ?_) (fun h29 => ?_)
  · have sx29 : (1 : Int) ≤ r1 := by omega
    refine jr.iconst rfl ?_
    refine jr.istore_n rfl (by decide) rfl ?_
    refine jr.iconst rfl ?_
    refine jr.istore_n rfl (by decide) rfl ?_
    refine jr.iconst rfl ?_
    refine jr.istore rfl (by decide) rfl ?_
    refine jr.pick [2, 1, 0, 3, 4] rfl rfl ?_
    exact c_Headers_readAll_x_L45 k_t k_x q 13 ((ju (ju (ju (ju (ju M t 7 (((x : Nat) : Int))) t 3 0) t 4 0) t 5 (-1)) t 6 (-1))) 0 0 0 (CI.u (CI.u (CI.u (CI.u (CI.w (v := ((x : Nat) : Int)) hC_M (i := 7) k_t (show (0 : Int) ≤ _ ∧ _ ≤ (597 : Int) from by have hk := kd_lt (a := (((x : Nat) : Int)).toNat) (by rw [(show kd (((x : Nat) : Int)).toNat = 33 from k_x)]; decide); omega) (show kd (((x : Nat) : Int)).toNat = 33 from k_x)) (i := 3) k_t (show (0 : Int) ≤ _ ∧ _ ≤ (12 : Int) from by omega) rfl) (i := 4) k_t (show (-2147483648 : Int) ≤ _ ∧ _ ≤ (2147483647 : Int) from by omega) rfl) (i := 5) k_t (show (-2147483648 : Int) ≤ _ ∧ _ ≤ (2147483647 : Int) from by omega) rfl) (i := 6) k_t (show (-2147483648 : Int) ≤ _ ∧ _ ≤ (2147483647 : Int) from by omega) rfl) (FR.o (FR.o (FR.o (FR.o (FR.o ht_M k_t rfl) k_t rfl) k_t rfl) k_t rfl) k_t rfl) (by omega) (by omega) (by omega) ((ju_i _ _ (by decide)).trans ((ju_i _ _ (by decide)).trans ((ju_i _ _ (by decide)).trans ((ju_i _ _ (by decide)).trans (ju_same _ _ _ _))))) (by omega) (show (ju (ju (ju (ju (ju M t 7 (((x : Nat) : Int))) t 3 0) t 4 0) t 5 (-1)) t 6 (-1)) x 1 = N from ((ju_i _ _ (by decide)).trans ((ju_i _ _ (by decide)).trans ((ju_i _ _ (by decide)).trans ((ju_i _ _ (by decide)).trans ((ju_i _ _ (by decide)).trans g_N)))))) (show BY8 ((ju (ju (ju (ju (ju M t 7 (((x : Nat) : Int))) t 3 0) t 4 0) t 5 (-1)) t 6 (-1))) (x + 1) f from (BY8.fr p0 k_by (FR.o (FR.o (FR.o (FR.o (FR.o (FR.rfl [(18, 3), (18, 4), (18, 5), (18, 6), (18, 7)] M) k_t rfl) k_t rfl) k_t rfl) k_t rfl) k_t rfl) rfl)) (HC.z ((ju_i _ _ (by decide)).trans ((ju_i _ _ (by decide)).trans ((ju_i _ _ (by decide)).trans (ju_same _ _ _ _))))) (by have hq0 : (ju (ju (ju (ju (ju M t 7 (((x : Nat) : Int))) t 3 0) t 4 0) t 5 (-1)) t 6 (-1)) t 3 = 0 := ((ju_i _ _ (by decide)).trans ((ju_i _ _ (by decide)).trans ((ju_i _ _ (by decide)).trans (ju_same _ _ _ _)))); have hq1 : (ju (ju (ju (ju (ju M t 7 (((x : Nat) : Int))) t 3 0) t 4 0) t 5 (-1)) t 6 (-1)) t 4 = 0 := ((ju_i _ _ (by decide)).trans ((ju_i _ _ (by decide)).trans (ju_same _ _ _ _))); have hq2 : (ju (ju (ju (ju (ju M t 7 (((x : Nat) : Int))) t 3 0) t 4 0) t 5 (-1)) t 6 (-1)) t 5 = -1 := ((ju_i _ _ (by decide)).trans (ju_same _ _ _ _)); have hq3 : (ju (ju (ju (ju (ju M t 7 (((x : Nat) : Int))) t 3 0) t 4 0) t 5 (-1)) t 6 (-1)) t 6 = -1 := (ju_same _ _ _ _); omega) (HP.z (((ju_i _ _ (by decide)).trans ((ju_i _ _ (by decide)).trans ((ju_i _ _ (by decide)).trans (ju_same _ _ _ _))))) (((ju_i _ _ (by decide)).trans ((ju_i _ _ (by decide)).trans (ju_same _ _ _ _)))) (((ju_i _ _ (by decide)).trans (ju_same _ _ _ _))) ((ju_same _ _ _ _))) (by omega) (by omega)
  · refine jr.aload_n rfl rfl ?_
    refine jr.iconst rfl ?_
    refine jr.putf (i := 4) (x := 2) rfl rfl (Nat.lt_trans (kx_18 k_t).1 (by decide)) (kx_18 k_t).2 (by decide) rfl rfl rfl rfl rfl ?_
    exact jr.vreturn rfl rfl (q _ (CI.u (CI.u (CI.u (CI.u (CI.u (CI.w (v := ((x : Nat) : Int)) hC_M (i := 7) k_t (show (0 : Int) ≤ _ ∧ _ ≤ (597 : Int) from by have hk := kd_lt (a := (((x : Nat) : Int)).toNat) (by rw [(show kd (((x : Nat) : Int)).toNat = 33 from k_x)]; decide); omega) (show kd (((x : Nat) : Int)).toNat = 33 from k_x)) (i := 3) k_t (show (0 : Int) ≤ _ ∧ _ ≤ (12 : Int) from by omega) rfl) (i := 4) k_t (show (-2147483648 : Int) ≤ _ ∧ _ ≤ (2147483647 : Int) from by omega) rfl) (i := 5) k_t (show (-2147483648 : Int) ≤ _ ∧ _ ≤ (2147483647 : Int) from by omega) rfl) (i := 6) k_t (show (-2147483648 : Int) ≤ _ ∧ _ ≤ (2147483647 : Int) from by omega) rfl) (i := 4) k_t (show (-2147483648 : Int) ≤ _ ∧ _ ≤ (2147483647 : Int) from by omega) rfl) (FR.o (FR.o (FR.o (FR.o (FR.o (FR.o ht_M k_t rfl) k_t rfl) k_t rfl) k_t rfl) k_t rfl) k_t rfl)  (HC.z ((ju_i _ _ (by decide)).trans ((ju_i _ _ (by decide)).trans ((ju_i _ _ (by decide)).trans ((ju_i _ _ (by decide)).trans (ju_same _ _ _ _)))))) (Or.inl ⟨by omega, ((ju_i _ _ (by decide)).trans ((ju_i _ _ (by decide)).trans ((ju_i _ _ (by decide)).trans ((ju_i _ _ (by decide)).trans (ju_same _ _ _ _))))), (ju_same _ _ _ _), ((ju_i _ _ (by decide)).trans ((ju_i _ _ (by decide)).trans (ju_same _ _ _ _))), ((ju_i _ _ (by decide)).trans (ju_same _ _ _ _))⟩) (((ju_i _ _ (by decide)).trans ((ju_i _ _ (by decide)).trans ((ju_i _ _ (by decide)).trans ((ju_i _ _ (by decide)).trans ((ju_i _ _ (by decide)).trans (ju_same _ _ _ _))))))))
end
