section
theorem hls_c {k : Int} (h0 : 0 ≤ k) (h1 : k < 12) : xcv_1 k = hls k := by
  have q := hls_c0 k.toNat (by omega)
  rw [Int.toNat_of_nonneg h0] at q
  exact q
theorem hls_r (k : Int) : 1 ≤ hls k ∧ hls k ≤ 24 := by
  unfold hls
  repeat' split
  all_goals omega
/-- the bytes of a packet's row -/
noncomputable def BY8 (M : jm) (c : Nat) (f : Int → Int) : Prop := ∀ i : Int, 0 ≤ i → i < 400 → M c i = f i ∧ 0 ≤ f i ∧ f i ≤ 255
theorem BY8.fr {W : List (Nat × Nat)} {T M : jm} {c : Nat} {f : Int → Int} (h : BY8 T c f) (hk : kd c = 34) (hf : FR W T M) (h1 : ksep W [(34, 1000)] = true) : BY8 M c f := fun i h0 h2 => by
  rw [hf.s h1 hk 1000 (by decide) i (Or.inl rfl)]
  exact h i h0 h2
noncomputable def hsZ (f : Int → Int) (n k a : Int) : Int := if k = 2 then 4 * (hb f n a % 16) else if k = 8 then 4 * (hb f n (a + 12) / 16) else if k = 4 ∨ k = 5 then 8 * hb f n (a + 1) + 8 else if k = 11 then n - a else hls k
noncomputable def hsM (bk k : Int) : Prop := (k = 4 ∧ bk ≠ 3) ∨ ((k = 6 ∨ k = 5) ∧ bk ≠ 3 ∧ bk ≠ 4 ∧ bk ≠ 5)
noncomputable def hsT (f : Int → Int) (n k a : Int) : Prop := (k = 2 ∧ tw f (a + 2) ≠ n - a) ∨ (k = 3 ∧ tw f (a + 2) ≠ n - a - 24) ∨ (k = 9 ∧ tw f (a + 4) ≠ n - a)
theorem c_Packet_byteAt_h {A : Nat → Option (Nat × (Nat → Int32))} {Q : Option Value → jm → Prop} {f : Int → Int} {M : jm} (hC_M : CI M) {t : Nat} (k_t : kd t = 33) {x : Int} (h_x : (-2147483648) ≤ x ∧ x ≤ 2147483647) {N : Int} (g_N : M t 1 = N) (p0 : BY8 M (t + 1) f) (q : ∀ (r : Int), (-1) ≤ r ∧ r ≤ 255 → (r = hb f N x ∧ 0 ≤ r) → Q (some (.int (Int32.ofInt r))) M) : jc A 1 192 [.ref (t), .int (Int32.ofInt (x))] M Q := by
  have k_by : kd (t + 1) = 34 := (kf_33_0 k_t).2
  refine jc_of (m := xm_192) rfl (Nat.le_of_ble_eq_true rfl) rfl ?_
  have b_N : (-1) ≤ N ∧ N ≤ 400 := by rw [← g_N]; exact (CI.r hC_M k_t (by decide) 1)
  refine jr.iload_n rfl rfl ?_
  refine jr.if_lt rfl rfl (by omega) (fun h1 => ?_) (fun h1 => ?_)
  · refine jr.iconst rfl ?_
    exact jr.ireturn rfl rfl rfl (q _ (by omega) (by first | (have hq := p0 x (by omega) (by omega); unfold hb; rw [if_pos (by omega)]; omega) | (unfold hb; rw [if_neg (by omega)]; omega)))
  · refine jr.iload_n rfl rfl ?_
    refine jr.aload_n rfl rfl ?_
    refine jr.getf (i := 1) (x := N) (v := .int (Int32.ofInt (N))) rfl rfl (Nat.lt_trans (kx_33 k_t).1 (by decide)) (kx_33 k_t).2 (by decide) rfl rfl g_N rfl ?_
    refine jr.icmp_ge rfl rfl (by omega) (by omega) (fun h9 => ?_) (fun h9 => ?_)
    · refine jr.iconst rfl ?_
      exact jr.ireturn rfl rfl rfl (q _ (by omega) (by first | (have hq := p0 x (by omega) (by omega); unfold hb; rw [if_pos (by omega)]; omega) | (unfold hb; rw [if_neg (by omega)]; omega)))
    · refine jr.aload_n rfl rfl ?_
      have k1 := kf_33_0 k_t
      refine jr.getf (i := 0) (v := .ref (t + 1)) rfl rfl (Nat.lt_trans (kx_33 k_t).1 (by decide)) (kx_33 k_t).2 (by decide) rfl rfl rfl (jval_ref rfl k1.1) ?_
      refine jr.iload_n rfl rfl ?_
      obtain ⟨v2, e2⟩ : ∃ z_, M ((t + 1)) x = z_ := ⟨_, rfl⟩
      have b2 : (-1) ≤ v2 ∧ v2 ≤ 255 := by rw [← e2]; exact (CI.r hC_M k1.2 (by decide) x)
      refine jr.iald (i := x) (x := v2) rfl (Nat.lt_trans (kx_34 k1.2).1 (by decide)) (kx_34 k1.2).2 (by decide) (by omega) (by omega) e2 ?_
      refine jr.goto rfl rfl ?_
      exact jr.ireturn rfl rfl rfl (q _ (by omega) (by first | (have hq := p0 x (by omega) (by omega); unfold hb; rw [if_pos (by omega)]; omega) | (unfold hb; rw [if_neg (by omega)]; omega)))
theorem c_Packet_numberFrom_h {A : Nat → Option (Nat × (Nat → Int32))} {Q : Option Value → jm → Prop} {f : Int → Int} {M : jm} (hC_M : CI M) {t : Nat} (k_t : kd t = 33) {x : Int} (h_x : 0 ≤ x ∧ x ≤ 398) (p0 : BY8 M (t + 1) f) (q : ∀ (r : Int), 0 ≤ r ∧ r ≤ 65535 → (r = tw f x ∧ 0 ≤ r ∧ r ≤ 65535) → Q (some (.long (Int64.ofInt r))) M) : jc A 2 193 [.ref (t), .int (Int32.ofInt (x)), .int (Int32.ofInt (2))] M Q := by
  have k_by : kd (t + 1) = 34 := (kf_33_0 k_t).2
  refine jc_of (m := xm_193) rfl (Nat.le_of_ble_eq_true rfl) rfl ?_
  refine jr.aload_n rfl rfl ?_
  have k1 := kf_33_0 k_t
  refine jr.getf (i := 0) (v := .ref (t + 1)) rfl rfl (Nat.lt_trans (kx_33 k_t).1 (by decide)) (kx_33 k_t).2 (by decide) rfl rfl rfl (jval_ref rfl k1.1) ?_
  refine jr.iload_n rfl rfl ?_
  refine jr.iload_n rfl rfl ?_
  refine jr_s rfl rfl (Or.inr rfl) ⟨Nat.le_of_ble_eq_true rfl, Nat.le_of_ble_eq_true rfl⟩ rfl rfl (jc.deep (c_PacketWall_numberAt_px hC_M k1.2 (by omega) (by omega) (by omega) (fun k h0 h1 => by have hq := p0 k h0 h1; omega) (fun r2 z2 w2_0 => ?_)) (by decide))
  have hv2 : 0 ≤ r2 ∧ r2 ≤ 65535 := (by have h1 := w2_0; have h2 := p0 x (by omega) (by omega); have h3 := p0 (x + 1) (by omega) (by omega); rw [show (2 : Int).toNat = 2 from rfl, nbs_2] at h1; omega)
  exact jr.lreturn rfl rfl (q _ (by omega) (by have h1 := w2_0; have h2 := p0 x (by omega) (by omega); have h3 := p0 (x + 1) (by omega) (by omega); rw [show (2 : Int).toNat = 2 from rfl, nbs_2] at h1; unfold tw; omega))
end
