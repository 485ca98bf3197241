section
/-! ===== sums of headers ===== -/
/-- the headers of f stand in t, the bytes are f1 by now -/
noncomputable def HS2 (M : jm) (t : Nat) (f f1 : Int → Int) (N : Int) : Prop := BY8 M ((M t 7).toNat + 1) f1 ∧ M (M t 7).toNat 1 = N ∧ (0 ≤ N ∧ N ≤ 400) ∧ HQ M t f N ∧ ∀ i : Int, 0 ≤ i → i < 400 → 0 ≤ f i ∧ f i ≤ 255
theorem HS.two {M : jm} {t : Nat} {f : Int → Int} {N : Int} (h : HS M t f N) : HS2 M t f f N := ⟨h.1, h.2.1, h.2.2.1, h.2.2.2, fun i h0 h1 => (h.1 i h0 h1).2⟩
/-- where the sum of a header of kind k lies -/
noncomputable def sof (k : Int) : Int := if k = 2 then 10 else if k = 7 then 2 else if k = 8 then 16 else 6
/-- the addresses that count for a sum -/
noncomputable def aD (f f1 : Int → Int) (N n : Int) : Int := sb f1 (hY f N n + (if hX f N n = 2 then 12 else 8)) (if hX f N n = 2 then 8 else 16)
noncomputable def dsu (k v : Int) : Int := if k = 9 ∧ v = 0 then 65535 else v
noncomputable def dS0 (f f1 : Int → Int) (N x : Int) : Int := sb (fz f1 (hY f N x + sof (hX f N x))) (hY f N x) ((if hX f N x = 2 then hY f N x + hZ f N x else N) - hY f N x).toNat
/-- the sum that is due -/
noncomputable def dS (f f1 : Int → Int) (N C x : Int) : Int := if kA f N C x = 2 ∨ kA f N C x = 7 then tn (dS0 f f1 N x) else if kA f N C x = 8 ∨ kA f N C x = 9 then (if nxD f N x.toNat = -1 then -1 else dsu (kA f N C x) (tn (dS0 f f1 N x + (aD f f1 N (nxD f N x.toNat) + (N - hY f N x) + (if kA f N C x = 8 then 6 else 17))))) else -1
theorem sof_r (k : Int) : (k ≠ 2 ∨ sof k = 10) ∧ (k ≠ 7 ∨ sof k = 2) ∧ (k ≠ 8 ∨ sof k = 16) ∧ (k ≠ 9 ∨ sof k = 6) := by
  unfold sof
  (repeat' split) <;> omega
theorem c_Headers_sumOffset_x {A : Nat → Option (Nat × (Nat → Int32))} {Q : Option Value → jm → Prop} {M : jm} (hC_M : CI M) {x : Int} (h_x : (-2147483648) ≤ x ∧ x ≤ 2147483647) (q : ∀ (r : Int), 2 ≤ r ∧ r ≤ 16 → (r = sof x) → Q (some (.int (Int32.ofInt r))) M) : jc A 1 124 [.int (Int32.ofInt (x))] M Q := by
  refine jc_of (m := xm_124) rfl (Nat.le_of_ble_eq_true rfl) rfl ?_
  refine jr.iload_n rfl rfl ?_
  rcases (show x = 2 ∨ x = 7 ∨ x = 8 ∨ (x ≠ 2 ∧ x ≠ 7 ∧ x ≠ 8) by omega) with h1 | h1 | h1 | h1
  · refine jr.lsw_k 2 rfl h1 rfl ?_
    refine jr.bipush rfl (by decide) ?_
    exact jr.ireturn rfl rfl rfl (q _ (by omega) (by unfold sof; (repeat' split) <;> omega))
  · refine jr.lsw_k 7 rfl h1 rfl ?_
    refine jr.iconst rfl ?_
    exact jr.ireturn rfl rfl rfl (q _ (by omega) (by unfold sof; (repeat' split) <;> omega))
  · refine jr.lsw_k 8 rfl h1 rfl ?_
    refine jr.bipush rfl (by decide) ?_
    exact jr.ireturn rfl rfl rfl (q _ (by omega) (by unfold sof; (repeat' split) <;> omega))
  · refine jr.lsw_d rfl (by omega) rfl (fun q hq => by simp only [List.mem_cons, List.not_mem_nil, or_false] at hq; rcases hq with rfl | rfl | rfl <;> (simp only; omega)) rfl ?_
    refine jr.bipush rfl (by decide) ?_
    exact jr.ireturn rfl rfl rfl (q _ (by omega) (by unfold sof; (repeat' split) <;> omega))
theorem c_Headers_addressTwos_x {A : Nat → Option (Nat × (Nat → Int32))} {Q : Option Value → jm → Prop} {f f1 : Int → Int} {N : Int} {M : jm} (hC_M : CI M) {t : Nat} (k_t : kd t = 18) {x : Int} (h_x : 0 ≤ x ∧ x ≤ 11) {C : Int} (g_C : M t 3 = C) (p0 : HS2 M t f f1 N) (p1 : x < C) (p2 : hX f N x = 2 ∨ hX f N x = 3) (q : ∀ (r : Int), 0 ≤ r ∧ r ≤ 30000000 → (r = aD f f1 N x) → Q (some (.long (Int64.ofInt r))) M) : jc A 3 123 [.ref (t), .int (Int32.ofInt (x))] M Q := by
  refine jc_of (m := xm_123) rfl (Nat.le_of_ble_eq_true rfl) rfl ?_
  have b_C : 0 ≤ C ∧ C ≤ 12 := by rw [← g_C]; exact (CI.r hC_M k_t (by decide) 3)
  refine jr.aload_n rfl rfl ?_
  have k1 := kf_18_1 k_t
  refine jr.getf (i := 1) (v := .ref (t + 2)) rfl rfl (Nat.lt_trans (kx_18 k_t).1 (by decide)) (kx_18 k_t).2 (by decide) rfl rfl rfl (jval_ref rfl k1.1) ?_
  refine jr.iload_n rfl rfl ?_
  obtain ⟨v2, e2⟩ : ∃ z_, M ((t + 2)) x = z_ := ⟨_, rfl⟩
  have b2 : 0 ≤ v2 ∧ v2 ≤ 400 := by rw [← e2]; exact (CI.r hC_M k1.2 (by decide) x)
  refine jr.iald (i := x) (x := v2) rfl (Nat.lt_trans (kx_20 k1.2).1 (by decide)) (kx_20 k1.2).2 (by decide) (by omega) (by omega) e2 ?_
  have hr := p0.2.2.2.1.2.1 x (by omega) (by omega)
  have hl := hok_l hr.1 p0.2.2.2.2 p0.2.2.1.2
  have hN4 := p0.2.2.1
  have hr1 := hr.2.1
  have hr2 := hr.2.2.1
  have hr3 := hr.2.2.2
  have lk := lst_k (hX f N x)
  refine jr.aload_n rfl rfl ?_
  have k3 := kf_18_0 k_t
  refine jr.getf (i := 0) (v := .ref (t + 1)) rfl rfl (Nat.lt_trans (kx_18 k_t).1 (by decide)) (kx_18 k_t).2 (by decide) rfl rfl rfl (jval_ref rfl k3.1) ?_
  refine jr.iload_n rfl rfl ?_
  obtain ⟨v4, e4⟩ : ∃ z_, M ((t + 1)) x = z_ := ⟨_, rfl⟩
  have b4 : 0 ≤ v4 ∧ v4 ≤ 11 := by rw [← e4]; exact (CI.r hC_M k3.2 (by decide) x)
  refine jr.iald (i := x) (x := v4) rfl (Nat.lt_trans (kx_19 k3.2).1 (by decide)) (kx_19 k3.2).2 (by decide) (by omega) (by omega) e4 ?_
  refine jr.iconst rfl ?_
  refine jr.icmp_ne rfl rfl (by omega) (by omega) (fun h13 => ?_) (fun h13 => ?_)
  · refine jr.bipush rfl (by decide) ?_
    refine jr.iadd rfl ?_
    refine jr.istore_n rfl (by decide) rfl ?_
    refine jr.aload_n rfl rfl ?_
    obtain ⟨v5, e5⟩ : ∃ z_, M t 7 = z_ := ⟨_, rfl⟩
    have b5 : 0 ≤ v5 ∧ v5 ≤ 597 := by rw [← e5]; exact (CI.r hC_M k_t (by decide) 7)
    have k6 : kd (v5).toNat = 33 := ((congrArg (fun z : Int => kd z.toNat) (show M t 7 = v5 from e5)).symm.trans (CI.x hC_M k_t 7 rfl (by decide)))
    refine jr.getf (i := 7) (x := v5) (v := .ref (v5.toNat)) rfl rfl (Nat.lt_trans (kx_18 k_t).1 (by decide)) (kx_18 k_t).2 (by decide) rfl rfl e5 (jval_mut rfl (kn_18_7 k_t)) ?_
    have k7 := kf_33_0 k6
    refine jr.getf (i := 0) (v := .ref ((v5.toNat) + 1)) rfl rfl (Nat.lt_trans (kx_33 k6).1 (by decide)) (kx_33 k6).2 (by decide) rfl rfl rfl (jval_ref rfl k7.1) ?_
    refine jr.iload_n rfl rfl ?_
    refine jr.iload_n rfl rfl ?_
    refine jr.aload_n rfl rfl ?_
    have k8 := kf_18_0 k_t
    refine jr.getf (i := 0) (v := .ref (t + 1)) rfl rfl (Nat.lt_trans (kx_18 k_t).1 (by decide)) (kx_18 k_t).2 (by decide) rfl rfl rfl (jval_ref rfl k8.1) ?_
    refine jr.iload_n rfl rfl ?_
    refine jr.iald (i := x) (x := v4) rfl (Nat.lt_trans (kx_19 k8.2).1 (by decide)) (kx_19 k8.2).2 (by decide) (by omega) (by omega) e4 ?_
    refine jr.iconst rfl ?_
    refine jr.icmp_ne rfl rfl (by omega) (by omega) (fun h41 => ?_) (fun h41 => ?_)
    · refine jr.bipush rfl (by decide) ?_
      refine jr.iadd rfl ?_
      refine jr_s rfl rfl (Or.inr rfl) ⟨Nat.le_of_ble_eq_true rfl, Nat.le_of_ble_eq_true rfl⟩ rfl rfl (jc.deep (c_PacketWall_addedTwos_pw hC_M k7.2 (by omega) (by omega) (by omega) (by have hq := p0.1; rw [e5] at hq; exact hq) (fun r9 z9 w9_0 => ?_)) (by decide))
      exact jr.lreturn rfl rfl (q _ (by omega) (by unfold aD; rw [← hr1, ← hr2, e4, e2]; first | (rw [if_pos (by omega), if_pos (by omega), w9_0, show v2 + 12 + 8 - (v2 + 12) = 8 from by omega]; rfl) | (rw [if_neg (by omega), if_neg (by omega), w9_0, show v2 + 8 + 16 - (v2 + 8) = 16 from by omega]; rfl) | (exfalso; omega)))
    · exact absurd h13 h41
  · refine jr.bipush rfl (by decide) ?_
    refine jr.goto rfl rfl ?_
    refine jr.iadd rfl ?_
    refine jr.istore_n rfl (by decide) rfl ?_
    refine jr.aload_n rfl rfl ?_
    obtain ⟨v11, e11⟩ : ∃ z_, M t 7 = z_ := ⟨_, rfl⟩
    have b11 : 0 ≤ v11 ∧ v11 ≤ 597 := by rw [← e11]; exact (CI.r hC_M k_t (by decide) 7)
    have k12 : kd (v11).toNat = 33 := ((congrArg (fun z : Int => kd z.toNat) (show M t 7 = v11 from e11)).symm.trans (CI.x hC_M k_t 7 rfl (by decide)))
    refine jr.getf (i := 7) (x := v11) (v := .ref (v11.toNat)) rfl rfl (Nat.lt_trans (kx_18 k_t).1 (by decide)) (kx_18 k_t).2 (by decide) rfl rfl e11 (jval_mut rfl (kn_18_7 k_t)) ?_
    have k13 := kf_33_0 k12
    refine jr.getf (i := 0) (v := .ref ((v11.toNat) + 1)) rfl rfl (Nat.lt_trans (kx_33 k12).1 (by decide)) (kx_33 k12).2 (by decide) rfl rfl rfl (jval_ref rfl k13.1) ?_
    refine jr.iload_n rfl rfl ?_
    refine jr.iload_n rfl rfl ?_
    refine jr.aload_n rfl rfl ?_
    have k14 := kf_18_0 k_t
    refine jr.getf (i := 0) (v := .ref (t + 1)) rfl rfl (Nat.lt_trans (kx_18 k_t).1 (by decide)) (kx_18 k_t).2 (by decide) rfl rfl rfl (jval_ref rfl k14.1) ?_
    refine jr.iload_n rfl rfl ?_
    refine jr.iald (i := x) (x := v4) rfl (Nat.lt_trans (kx_19 k14.2).1 (by decide)) (kx_19 k14.2).2 (by decide) (by omega) (by omega) e4 ?_
    refine jr.iconst rfl ?_
    refine jr.icmp_ne rfl rfl (by omega) (by omega) (fun h41 => ?_) (fun h41 => ?_)
    · exact absurd h41 (by omega)
    · refine jr.bipush rfl (by decide) ?_
      refine jr.goto rfl rfl ?_
      refine jr.iadd rfl ?_
      refine jr_s rfl rfl (Or.inr rfl) ⟨Nat.le_of_ble_eq_true rfl, Nat.le_of_ble_eq_true rfl⟩ rfl rfl (jc.deep (c_PacketWall_addedTwos_pw hC_M k13.2 (by omega) (by omega) (by omega) (by have hq := p0.1; rw [e11] at hq; exact hq) (fun r15 z15 w15_0 => ?_)) (by decide))
      exact jr.lreturn rfl rfl (q _ (by omega) (by unfold aD; rw [← hr1, ← hr2, e4, e2]; first | (rw [if_pos (by omega), if_pos (by omega), w15_0, show v2 + 12 + 8 - (v2 + 12) = 8 from by omega]; rfl) | (rw [if_neg (by omega), if_neg (by omega), w15_0, show v2 + 8 + 16 - (v2 + 8) = 16 from by omega]; rfl) | (exfalso; omega)))
theorem ds_f {M : jm} {t : Nat} {f f1 : Int → Int} {N C x k : Int} (h : HS2 M t f f1 N) (hC : M t 3 = C) (hk : k = kA f N C x) (h4 : k = 2 ∨ (7 ≤ k ∧ k ≤ 9)) : (0 ≤ x ∧ x < C) ∧ hX f N x = k ∧ M (t + 2) x = hY f N x ∧ M (t + 3) x = hZ f N x ∧ (0 ≤ N ∧ N ≤ 400) ∧ hY f N x + 8 ≤ N ∧ (k ≠ 8 ∨ hY f N x + 20 ≤ N) ∧ (k ≠ 2 ∨ (20 ≤ hZ f N x ∧ hY f N x + hZ f N x ≤ N)) := by
  have hx : 0 ≤ x ∧ x < C := by
    unfold kA at hk
    split at hk <;> omega
  rw [kA_i hx] at hk
  have hr := h.2.2.2.1.2.1 x hx.1 (by omega)
  have hl := hok_l hr.1 h.2.2.2.2 h.2.2.1.2
  rw [← hk] at hl
  have lk := lst_k k
  refine ⟨hx, hk.symm, hr.2.2.1, hr.2.2.2, h.2.2.1, ?_, ?_, ?_⟩
  · rcases h4 with q | q
    · have := lk.1 q; omega
    · rcases (show k = 7 ∨ k = 8 ∨ k = 9 by omega) with q | q | q
      · have := lk.2.2.2.2.2.2.2 (by omega); omega
      · have := lk.2.1 q; omega
      · have := lk.2.2.2.2.2.2.2 (by omega); omega
  · by_cases q : k = 8
    · have := lk.2.1 q; right; omega
    · exact Or.inl q
  · by_cases q : k = 2
    · right; omega
    · exact Or.inl q
theorem dS0_e {f f1 : Int → Int} {N x k Y un : Int} (hk : hX f N x = k) (hy : hY f N x = Y) (hu : (k = 2 ∧ un = Y + hZ f N x) ∨ (k ≠ 2 ∧ un = N)) (h4 : k = 2 ∨ (7 ≤ k ∧ k ≤ 9)) (h0 : 0 ≤ Y) (h8 : Y + 8 ≤ un ∧ un ≤ 400) (h20 : k = 7 ∨ k = 9 ∨ Y + 20 ≤ un) (hf : ∀ i : Int, 0 ≤ i → i < 400 → 0 ≤ f1 i ∧ f1 i ≤ 255) : dS0 f f1 N x = sb f1 Y (un - Y).toNat - tw f1 (Y + sof k) ∧ (0 ≤ dS0 f f1 N x ∧ dS0 f f1 N x ≤ 26112000) ∧ Y + sof k + 1 < un ∧ 0 ≤ sof k ∧ sof k % 2 = 0 := by
  have so := sof_r k
  have s1 : 0 ≤ sof k ∧ sof k % 2 = 0 ∧ Y + sof k + 1 < un := by
    rcases h4 with q | q
    · omega
    · rcases (show k = 7 ∨ k = 8 ∨ k = 9 by omega) with q | q | q <;> omega
  have e : dS0 f f1 N x = sb (fz f1 (Y + sof k)) Y (un - Y).toNat := by
    unfold dS0
    rw [hk, hy]
    rcases hu with ⟨q1, q2⟩ | ⟨q1, q2⟩
    · rw [if_pos q1, q2]
    · rw [if_neg q1, q2]
  rw [e]
  have r := sb_r (f := fz f1 (Y + sof k)) (a := Y) (un - Y).toNat (fun i g0 g1 => by
    have hz := hf i (by omega) (by omega)
    unfold fz
    split <;> omega)
  refine ⟨(sb_zt (by omega) (by omega) (by omega)).symm, ⟨r.1, ?_⟩, s1.2.2, s1.1, s1.2.1⟩
  have : ((un - Y).toNat : Int) ≤ 400 := by omega
  omega
theorem nxD_p {f : Int → Int} {N C x n : Int} (hx : 0 ≤ x ∧ x < C) (hn : n = nxD f N x.toNat) (h1 : n ≠ -1) : (0 ≤ n ∧ n < C) ∧ (hX f N n = 2 ∨ hX f N n = 3) := by
  have q := nxD_r f N x.toNat
  rw [← hn] at q
  rcases q with q | q
  · exact absurd q h1
  · exact ⟨⟨q.1, by omega⟩, q.2.2⟩
theorem c_Headers_kindAt_y {A : Nat → Option (Nat × (Nat → Int32))} {Q : Option Value → jm → Prop} {f f1 : Int → Int} {N : Int} {M : jm} (hC_M : CI M) {t : Nat} (k_t : kd t = 18) {x : Int} (h_x : (-2147483648) ≤ x ∧ x ≤ 2147483647) {C : Int} (g_C : M t 3 = C) (p0 : HS2 M t f f1 N) (q : ∀ (r : Int), (-1) ≤ r ∧ r ≤ 11 → (r = kA f N C x) → Q (some (.int (Int32.ofInt r))) M) : jc A 1 107 [.ref (t), .int (Int32.ofInt (x))] M Q := by
  refine jc_of (m := xm_107) rfl (Nat.le_of_ble_eq_true rfl) rfl ?_
  have b_C : 0 ≤ C ∧ C ≤ 12 := by rw [← g_C]; exact (CI.r hC_M k_t (by decide) 3)
  refine jr.iload_n rfl rfl ?_
  refine jr.if_lt rfl rfl (by omega) (fun h1 => ?_) (fun h1 => ?_)
  · refine jr.iconst rfl ?_
    exact jr.ireturn rfl rfl rfl (q _ (by omega) (by unfold kA; first | (rw [if_neg (by omega)]) | (have hr := p0.2.2.2.1.2.1 x (by omega) (by omega); rw [if_pos (by omega)]; omega)))
  · refine jr.iload_n rfl rfl ?_
    refine jr.aload_n rfl rfl ?_
    refine jr.getf (i := 3) (x := C) (v := .int (Int32.ofInt (C))) rfl rfl (Nat.lt_trans (kx_18 k_t).1 (by decide)) (kx_18 k_t).2 (by decide) rfl rfl g_C rfl ?_
    refine jr.icmp_ge rfl rfl (by omega) (by omega) (fun h9 => ?_) (fun h9 => ?_)
    · refine jr.iconst rfl ?_
      exact jr.ireturn rfl rfl rfl (q _ (by omega) (by unfold kA; first | (rw [if_neg (by omega)]) | (have hr := p0.2.2.2.1.2.1 x (by omega) (by omega); rw [if_pos (by omega)]; omega)))
    · refine jr.aload_n rfl rfl ?_
      have k1 := kf_18_0 k_t
      refine jr.getf (i := 0) (v := .ref (t + 1)) rfl rfl (Nat.lt_trans (kx_18 k_t).1 (by decide)) (kx_18 k_t).2 (by decide) rfl rfl rfl (jval_ref rfl k1.1) ?_
      refine jr.iload_n rfl rfl ?_
      obtain ⟨v2, e2⟩ : ∃ z_, M ((t + 1)) x = z_ := ⟨_, rfl⟩
      have b2 : 0 ≤ v2 ∧ v2 ≤ 11 := by rw [← e2]; exact (CI.r hC_M k1.2 (by decide) x)
      refine jr.iald (i := x) (x := v2) rfl (Nat.lt_trans (kx_19 k1.2).1 (by decide)) (kx_19 k1.2).2 (by decide) (by omega) (by omega) e2 ?_
      refine jr.goto rfl rfl ?_
      exact jr.ireturn rfl rfl rfl (q _ (by omega) (by unfold kA; first | (rw [if_neg (by omega)]) | (have hr := p0.2.2.2.1.2.1 x (by omega) (by omega); rw [if_pos (by omega)]; omega)))
theorem c_Headers_endOf_y {A : Nat → Option (Nat × (Nat → Int32))} {Q : Option Value → jm → Prop} {f f1 : Int → Int} {N : Int} {M : jm} (hC_M : CI M) {t : Nat} (k_t : kd t = 18) {x : Int} (h_x : (-2147483648) ≤ x ∧ x ≤ 2147483647) {C : Int} (g_C : M t 3 = C) (p0 : HS2 M t f f1 N) (q : ∀ (r : Int), (-400) ≤ r ∧ r ≤ 2448 → (r = enf f N C x) → Q (some (.int (Int32.ofInt r))) M) : jc A 2 118 [.ref (t), .int (Int32.ofInt (x))] M Q := by
  refine jc_of (m := xm_118) rfl (Nat.le_of_ble_eq_true rfl) rfl ?_
  have b_C : 0 ≤ C ∧ C ≤ 12 := by rw [← g_C]; exact (CI.r hC_M k_t (by decide) 3)
  refine jr.aload_n rfl rfl ?_
  refine jr.iload_n rfl rfl ?_
  refine jr_v rfl rfl (Or.inl rfl) rfl rfl (Nat.lt_trans (kx_18 k_t).1 (by decide)) (kx_18 k_t).2 ⟨rfl, Nat.le_of_ble_eq_true rfl, Nat.le_of_ble_eq_true rfl⟩ rfl (jc.deep (c_Headers_hasHeader hC_M k_t (by omega) (fun r1 z1 w1_0 w1_1 => ?_)) (by decide))
  refine jr.if_eq rfl rfl (by omega) (fun h5 => ?_) (fun h5 => ?_)
  · refine jr.iconst rfl ?_
    exact jr.ireturn rfl rfl rfl (q _ (by omega) (by unfold enf; first | (rw [if_neg (by omega)]) | (have hr := p0.2.2.2.1.2.1 x (by omega) (by omega); rw [if_pos (by omega)]; omega)))
  · have sx5 : (1 : Int) ≤ r1 := by omega
    refine jr.aload_n rfl rfl ?_
    have k2 := kf_18_1 k_t
    refine jr.getf (i := 1) (v := .ref (t + 2)) rfl rfl (Nat.lt_trans (kx_18 k_t).1 (by decide)) (kx_18 k_t).2 (by decide) rfl rfl rfl (jval_ref rfl k2.1) ?_
    refine jr.iload_n rfl rfl ?_
    obtain ⟨v3, e3⟩ : ∃ z_, M ((t + 2)) x = z_ := ⟨_, rfl⟩
    have b3 : 0 ≤ v3 ∧ v3 ≤ 400 := by rw [← e3]; exact (CI.r hC_M k2.2 (by decide) x)
    refine jr.iald (i := x) (x := v3) rfl (Nat.lt_trans (kx_20 k2.2).1 (by decide)) (kx_20 k2.2).2 (by decide) (by omega) (by omega) e3 ?_
    refine jr.aload_n rfl rfl ?_
    have k4 := kf_18_2 k_t
    refine jr.getf (i := 2) (v := .ref (t + 3)) rfl rfl (Nat.lt_trans (kx_18 k_t).1 (by decide)) (kx_18 k_t).2 (by decide) rfl rfl rfl (jval_ref rfl k4.1) ?_
    refine jr.iload_n rfl rfl ?_
    obtain ⟨v5, e5⟩ : ∃ z_, M ((t + 3)) x = z_ := ⟨_, rfl⟩
    have b5 : (-400) ≤ v5 ∧ v5 ≤ 2048 := by rw [← e5]; exact (CI.r hC_M k4.2 (by decide) x)
    refine jr.iald (i := x) (x := v5) rfl (Nat.lt_trans (kx_21 k4.2).1 (by decide)) (kx_21 k4.2).2 (by decide) (by omega) (by omega) e5 ?_
    refine jr.iadd rfl ?_
    refine jr.goto rfl rfl ?_
    exact jr.ireturn rfl rfl rfl (q _ (by omega) (by unfold enf; first | (rw [if_neg (by omega)]) | (have hr := p0.2.2.2.1.2.1 x (by omega) (by omega); rw [if_pos (by omega)]; omega)))
theorem c_Headers_dueSum_x {A : Nat → Option (Nat × (Nat → Int32))} {Q : Option Value → jm → Prop} {f f1 : Int → Int} {N : Int} {M : jm} (hC_M : CI M) {t : Nat} (k_t : kd t = 18) {x : Int} (h_x : (-2147483648) ≤ x ∧ x ≤ 2147483647) {C : Int} (g_C : M t 3 = C) (p0 : HS2 M t f f1 N) (q : ∀ (r : Int), (-1) ≤ r ∧ r ≤ 65535 → (r = dS f f1 N C x) → Q (some (.int (Int32.ofInt r))) M) : jc A 4 120 [.ref (t), .int (Int32.ofInt (x))] M Q := by
  refine jc_of (m := xm_120) rfl (Nat.le_of_ble_eq_true rfl) rfl ?_
  have b_C : 0 ≤ C ∧ C ≤ 12 := by rw [← g_C]; exact (CI.r hC_M k_t (by decide) 3)
  refine jr.aload_n rfl rfl ?_
  refine jr.iload_n rfl rfl ?_
  refine jr_v rfl rfl (Or.inl rfl) rfl rfl (Nat.lt_trans (kx_18 k_t).1 (by decide)) (kx_18 k_t).2 ⟨rfl, Nat.le_of_ble_eq_true rfl, Nat.le_of_ble_eq_true rfl⟩ rfl (jc.deep (c_Headers_kindAt_y hC_M k_t (by omega) g_C p0 (fun r1 z1 w1_0 => ?_)) (by decide))
  have hk0 : r1 = -1 ∨ (0 ≤ x ∧ x < C) := (by have hq := w1_0; unfold kA at hq; split at hq <;> omega)
  refine jr.istore_n rfl (by decide) rfl ?_
  refine jr.iload_n rfl rfl ?_
  refine jr.iconst rfl ?_
  refine jr.icmp_eq rfl rfl (by omega) (by omega) (fun h8 => ?_) (fun h8 => ?_)
  · refine jr.aload_n rfl rfl ?_
    have k2 := kf_18_1 k_t
    refine jr.getf (i := 1) (v := .ref (t + 2)) rfl rfl (Nat.lt_trans (kx_18 k_t).1 (by decide)) (kx_18 k_t).2 (by decide) rfl rfl rfl (jval_ref rfl k2.1) ?_
    refine jr.iload_n rfl rfl ?_
    obtain ⟨v3, e3⟩ : ∃ z_, M ((t + 2)) x = z_ := ⟨_, rfl⟩
    have b3 : 0 ≤ v3 ∧ v3 ≤ 400 := by rw [← e3]; exact (CI.r hC_M k2.2 (by decide) x)
    refine jr.iald (i := x) (x := v3) rfl (Nat.lt_trans (kx_20 k2.2).1 (by decide)) (kx_20 k2.2).2 (by decide) (by omega) (by omega) e3 ?_
    obtain ⟨hx0, hkx, hyx, hzx, hN4, hA8, hA20, hA2⟩ := ds_f p0 g_C w1_0 (by omega)
    clear hk0
    refine jr.istore_n rfl (by decide) rfl ?_
    refine jr.iload_n rfl rfl ?_
    refine jr.iconst rfl ?_
    refine jr.icmp_ne rfl rfl (by omega) (by omega) (fun h29 => ?_) (fun h29 => ?_)
    · exact absurd h29 (by omega)
    · refine jr.aload_n rfl rfl ?_
      refine jr.iload_n rfl rfl ?_
      refine jr_v rfl rfl (Or.inl rfl) rfl rfl (Nat.lt_trans (kx_18 k_t).1 (by decide)) (kx_18 k_t).2 ⟨rfl, Nat.le_of_ble_eq_true rfl, Nat.le_of_ble_eq_true rfl⟩ rfl (jc.deep (c_Headers_endOf_y hC_M k_t (by omega) g_C p0 (fun r4 z4 w4_0 => ?_)) (by decide))
      have hen : r4 = hY f N x + hZ f N x := (by rw [w4_0, enf_i hx0])
      refine jr.goto rfl rfl ?_
      refine jr.istore rfl (by decide) rfl ?_
      refine jr.aload_n rfl rfl ?_
      obtain ⟨v5, e5⟩ : ∃ z_, M t 7 = z_ := ⟨_, rfl⟩
      have b5 : 0 ≤ v5 ∧ v5 ≤ 597 := by rw [← e5]; exact (CI.r hC_M k_t (by decide) 7)
      have k6 : kd (v5).toNat = 33 := ((congrArg (fun z : Int => kd z.toNat) (show M t 7 = v5 from e5)).symm.trans (CI.x hC_M k_t 7 rfl (by decide)))
      refine jr.getf (i := 7) (x := v5) (v := .ref (v5.toNat)) rfl rfl (Nat.lt_trans (kx_18 k_t).1 (by decide)) (kx_18 k_t).2 (by decide) rfl rfl e5 (jval_mut rfl (kn_18_7 k_t)) ?_
      have k7 := kf_33_0 k6
      refine jr.getf (i := 0) (v := .ref ((v5.toNat) + 1)) rfl rfl (Nat.lt_trans (kx_33 k6).1 (by decide)) (kx_33 k6).2 (by decide) rfl rfl rfl (jval_ref rfl k7.1) ?_
      refine jr.iload_n rfl rfl ?_
      refine jr.iload rfl rfl ?_
      refine jr_s rfl rfl (Or.inr rfl) ⟨Nat.le_of_ble_eq_true rfl, Nat.le_of_ble_eq_true rfl⟩ rfl rfl (jc.deep (c_PacketWall_addedTwos_pw hC_M k7.2 (by omega) (by omega) (by omega) (by have hq := p0.1; rw [e5] at hq; exact hq) (fun r8 z8 w8_0 => ?_)) (by decide))
      refine jr.aload_n rfl rfl ?_
      have k9 : kd (v5).toNat = 33 := ((congrArg (fun z : Int => kd z.toNat) (show M t 7 = v5 from e5)).symm.trans (CI.x hC_M k_t 7 rfl (by decide)))
      refine jr.getf (i := 7) (x := v5) (v := .ref (v5.toNat)) rfl rfl (Nat.lt_trans (kx_18 k_t).1 (by decide)) (kx_18 k_t).2 (by decide) rfl rfl e5 (jval_mut rfl (kn_18_7 k_t)) ?_
      refine jr.iload_n rfl rfl ?_
      refine jr.iload_n rfl rfl ?_
      refine jr_s rfl rfl (Or.inl rfl) ⟨Nat.le_of_ble_eq_true rfl, Nat.le_of_ble_eq_true rfl⟩ rfl rfl (jc.deep (c_Headers_sumOffset_x hC_M (by omega) (fun r10 z10 w10_0 => ?_)) (by decide))
      obtain ⟨hD, hD1, hD2, hD3, hD4⟩ := dS0_e (f := f) (f1 := f1) (N := N) (x := x) (un := r4) hkx (show hY f N x = v3 from by omega) (by omega) (by omega) (by omega) (by omega) (by omega) (fun i h0 h1 => (p0.1 i h0 h1).2)
      rw [← w10_0] at hD hD2 hD3 hD4
      refine jr.iadd rfl ?_
      refine jr.iconst rfl ?_
      refine jr_v rfl rfl (Or.inl rfl) rfl rfl (Nat.lt_trans (kx_33 k9).1 (by decide)) (kx_33 k9).2 ⟨rfl, Nat.le_of_ble_eq_true rfl, Nat.le_of_ble_eq_true rfl⟩ rfl (jc.deep (c_Packet_numberFrom_h hC_M k9 (by omega) (by have hq := p0.1; rw [e5] at hq; exact hq) (fun r11 z11 w11_0 => ?_)) (by decide))
      rw [← w8_0, ← w11_0.1] at hD
      refine jr.lsub rfl ?_
      refine jr.lstore rfl (by decide) rfl ?_
      refine jr.iload_n rfl rfl ?_
      refine jr.bipush rfl (by decide) ?_
      refine jr.icmp_eq rfl rfl (by omega) (by omega) (fun h82 => ?_) (fun h82 => ?_)
      · exact absurd h82 (by omega)
      · refine jr.iload_n rfl rfl ?_
        refine jr.bipush rfl (by decide) ?_
        refine jr.icmp_ne rfl rfl (by omega) (by omega) (fun h88 => ?_) (fun h88 => ?_)
        · refine jr.lload rfl rfl ?_
          refine jr_s rfl rfl (Or.inr rfl) ⟨Nat.le_of_ble_eq_true rfl, Nat.le_of_ble_eq_true rfl⟩ rfl rfl (jc.deep (c_PacketWall_foldedSum_x hC_M (by omega) (fun r12 z12 w12_0 => ?_)) (by decide))
          skip
          refine jr.istore rfl (by decide) rfl ?_
          refine jr.iload_n rfl rfl ?_
          refine jr.bipush rfl (by decide) ?_
          refine jr.icmp_ne rfl rfl (by omega) (by omega) (fun h148 => ?_) (fun h148 => ?_)
          · refine jr.iload rfl rfl ?_
            exact jr.ireturn rfl rfl rfl (q _ (by omega) (by have hka : kA f N C x = r1 := w1_0.symm; first | (unfold dS; rw [hka, if_pos (by omega), hD, ← w12_0]; done) | (unfold dS; rw [hka, if_pos (by omega), hD, ← w12_0]; omega) | (exfalso; omega)))
          · exact absurd (by omega) h148
        · exact absurd (by omega) h88
  · refine jr.iload_n rfl rfl ?_
    refine jr_s rfl rfl (Or.inr rfl) ⟨Nat.le_of_ble_eq_true rfl, Nat.le_of_ble_eq_true rfl⟩ rfl rfl (jc.deep (c_PacketWall_isCarriedKind_x hC_M (by omega) (fun r13 z13 w13_0 w13_1 => ?_)) (by decide))
    refine jr.if_ne rfl rfl (by omega) (fun h15 => ?_) (fun h15 => ?_)
    · have sx15 : (1 : Int) ≤ r13 := by omega
      refine jr.aload_n rfl rfl ?_
      have k14 := kf_18_1 k_t
      refine jr.getf (i := 1) (v := .ref (t + 2)) rfl rfl (Nat.lt_trans (kx_18 k_t).1 (by decide)) (kx_18 k_t).2 (by decide) rfl rfl rfl (jval_ref rfl k14.1) ?_
      refine jr.iload_n rfl rfl ?_
      obtain ⟨v15, e15⟩ : ∃ z_, M ((t + 2)) x = z_ := ⟨_, rfl⟩
      have b15 : 0 ≤ v15 ∧ v15 ≤ 400 := by rw [← e15]; exact (CI.r hC_M k14.2 (by decide) x)
      refine jr.iald (i := x) (x := v15) rfl (Nat.lt_trans (kx_20 k14.2).1 (by decide)) (kx_20 k14.2).2 (by decide) (by omega) (by omega) e15 ?_
      obtain ⟨hx0, hkx, hyx, hzx, hN4, hA8, hA20, hA2⟩ := ds_f p0 g_C w1_0 (by omega)
      clear hk0
      refine jr.istore_n rfl (by decide) rfl ?_
      refine jr.iload_n rfl rfl ?_
      refine jr.iconst rfl ?_
      refine jr.icmp_ne rfl rfl (by omega) (by omega) (fun h29 => ?_) (fun h29 => ?_)
      · refine jr.aload_n rfl rfl ?_
        obtain ⟨v16, e16⟩ : ∃ z_, M t 7 = z_ := ⟨_, rfl⟩
        have b16 : 0 ≤ v16 ∧ v16 ≤ 597 := by rw [← e16]; exact (CI.r hC_M k_t (by decide) 7)
        have k17 : kd (v16).toNat = 33 := ((congrArg (fun z : Int => kd z.toNat) (show M t 7 = v16 from e16)).symm.trans (CI.x hC_M k_t 7 rfl (by decide)))
        refine jr.getf (i := 7) (x := v16) (v := .ref (v16.toNat)) rfl rfl (Nat.lt_trans (kx_18 k_t).1 (by decide)) (kx_18 k_t).2 (by decide) rfl rfl e16 (jval_mut rfl (kn_18_7 k_t)) ?_
        obtain ⟨v18, e18⟩ : ∃ z_, M ((v16.toNat)) 1 = z_ := ⟨_, rfl⟩
        have b18 : (-1) ≤ v18 ∧ v18 ≤ 400 := by rw [← e18]; exact (CI.r hC_M k17 (by decide) 1)
        refine jr.getf (i := 1) (x := v18) (v := .int (Int32.ofInt (v18))) rfl rfl (Nat.lt_trans (kx_33 k17).1 (by decide)) (kx_33 k17).2 (by decide) rfl rfl e18 rfl ?_
        refine jr.istore rfl (by decide) rfl ?_
        refine jr.aload_n rfl rfl ?_
        have k19 : kd (v16).toNat = 33 := ((congrArg (fun z : Int => kd z.toNat) (show M t 7 = v16 from e16)).symm.trans (CI.x hC_M k_t 7 rfl (by decide)))
        refine jr.getf (i := 7) (x := v16) (v := .ref (v16.toNat)) rfl rfl (Nat.lt_trans (kx_18 k_t).1 (by decide)) (kx_18 k_t).2 (by decide) rfl rfl e16 (jval_mut rfl (kn_18_7 k_t)) ?_
        have k20 := kf_33_0 k19
        refine jr.getf (i := 0) (v := .ref ((v16.toNat) + 1)) rfl rfl (Nat.lt_trans (kx_33 k19).1 (by decide)) (kx_33 k19).2 (by decide) rfl rfl rfl (jval_ref rfl k20.1) ?_
        refine jr.iload_n rfl rfl ?_
        refine jr.iload rfl rfl ?_
        have hnl : v18 = N := (by have hq := p0.2.1; rw [e16, e18] at hq; exact hq)
        refine jr_s rfl rfl (Or.inr rfl) ⟨Nat.le_of_ble_eq_true rfl, Nat.le_of_ble_eq_true rfl⟩ rfl rfl (jc.deep (c_PacketWall_addedTwos_pw hC_M k20.2 (by omega) (by omega) (by omega) (by have hq := p0.1; rw [e16] at hq; exact hq) (fun r21 z21 w21_0 => ?_)) (by decide))
        refine jr.aload_n rfl rfl ?_
        have k22 : kd (v16).toNat = 33 := ((congrArg (fun z : Int => kd z.toNat) (show M t 7 = v16 from e16)).symm.trans (CI.x hC_M k_t 7 rfl (by decide)))
        refine jr.getf (i := 7) (x := v16) (v := .ref (v16.toNat)) rfl rfl (Nat.lt_trans (kx_18 k_t).1 (by decide)) (kx_18 k_t).2 (by decide) rfl rfl e16 (jval_mut rfl (kn_18_7 k_t)) ?_
        refine jr.iload_n rfl rfl ?_
        refine jr.iload_n rfl rfl ?_
        refine jr_s rfl rfl (Or.inl rfl) ⟨Nat.le_of_ble_eq_true rfl, Nat.le_of_ble_eq_true rfl⟩ rfl rfl (jc.deep (c_Headers_sumOffset_x hC_M (by omega) (fun r23 z23 w23_0 => ?_)) (by decide))
        obtain ⟨hD, hD1, hD2, hD3, hD4⟩ := dS0_e (f := f) (f1 := f1) (N := N) (x := x) (un := v18) hkx (show hY f N x = v15 from by omega) (by omega) (by omega) (by omega) (by omega) (by omega) (fun i h0 h1 => (p0.1 i h0 h1).2)
        rw [← w23_0] at hD hD2 hD3 hD4
        refine jr.iadd rfl ?_
        refine jr.iconst rfl ?_
        refine jr_v rfl rfl (Or.inl rfl) rfl rfl (Nat.lt_trans (kx_33 k22).1 (by decide)) (kx_33 k22).2 ⟨rfl, Nat.le_of_ble_eq_true rfl, Nat.le_of_ble_eq_true rfl⟩ rfl (jc.deep (c_Packet_numberFrom_h hC_M k22 (by omega) (by have hq := p0.1; rw [e16] at hq; exact hq) (fun r24 z24 w24_0 => ?_)) (by decide))
        rw [← w21_0, ← w24_0.1] at hD
        refine jr.lsub rfl ?_
        refine jr.lstore rfl (by decide) rfl ?_
        refine jr.iload_n rfl rfl ?_
        refine jr.bipush rfl (by decide) ?_
        refine jr.icmp_eq rfl rfl (by omega) (by omega) (fun h82 => ?_) (fun h82 => ?_)
        · refine jr.aload_n rfl rfl ?_
          refine jr.iload_n rfl rfl ?_
          refine jr_v rfl rfl (Or.inl rfl) rfl rfl (Nat.lt_trans (kx_18 k_t).1 (by decide)) (kx_18 k_t).2 ⟨rfl, Nat.le_of_ble_eq_true rfl, Nat.le_of_ble_eq_true rfl⟩ rfl (jc.deep (c_Headers_nearestNet_x hC_M k_t (by omega) g_C (fun i h0 h1 => (p0.2.2.2.1.2.1 i h0 (by omega)).2.1) (by omega) (fun r25 z25 w25_0 => ?_)) (by decide))
          have hnd := fun h => nxD_p (n := r25) hx0 w25_0 h
          refine jr.istore rfl (by decide) rfl ?_
          refine jr.iload rfl rfl ?_
          refine jr.iconst rfl ?_
          refine jr.icmp_ne rfl rfl (by omega) (by omega) (fun h101 => ?_) (fun h101 => ?_)
          · have sx101 : (0 : Int) ≤ r25 := by omega
            refine jr.lload rfl rfl ?_
            refine jr.aload_n rfl rfl ?_
            refine jr.iload rfl rfl ?_
            obtain ⟨hn1, hn2⟩ := hnd (by omega)
            refine jr_v rfl rfl (Or.inl rfl) rfl rfl (Nat.lt_trans (kx_18 k_t).1 (by decide)) (kx_18 k_t).2 ⟨rfl, Nat.le_of_ble_eq_true rfl, Nat.le_of_ble_eq_true rfl⟩ rfl (jc.deep (c_Headers_addressTwos_x hC_M k_t (by omega) g_C p0 hn1.2 hn2 (fun r26 z26 w26_0 => ?_)) (by decide))
            refine jr.iload rfl rfl ?_
            refine jr.iload_n rfl rfl ?_
            refine jr.isub rfl ?_
            refine jr.i2l rfl (by omega) ?_
            refine jr.ladd rfl ?_
            refine jr.iload_n rfl rfl ?_
            refine jr.bipush rfl (by decide) ?_
            refine jr.icmp_ne rfl rfl (by omega) (by omega) (fun h123 => ?_) (fun h123 => ?_)
            · exact absurd h123 (by omega)
            · refine jr.bipush rfl (by decide) ?_
              refine jr.goto rfl rfl ?_
              refine jr.i2l rfl (by omega) ?_
              refine jr.ladd rfl ?_
              refine jr.ladd rfl ?_
              refine jr.lstore rfl (by decide) rfl ?_
              refine jr.lload rfl rfl ?_
              refine jr_s rfl rfl (Or.inr rfl) ⟨Nat.le_of_ble_eq_true rfl, Nat.le_of_ble_eq_true rfl⟩ rfl rfl (jc.deep (c_PacketWall_foldedSum_x hC_M (by omega) (fun r27 z27 w27_0 => ?_)) (by decide))
              skip
              refine jr.istore rfl (by decide) rfl ?_
              refine jr.iload_n rfl rfl ?_
              refine jr.bipush rfl (by decide) ?_
              refine jr.icmp_ne rfl rfl (by omega) (by omega) (fun h148 => ?_) (fun h148 => ?_)
              · refine jr.iload rfl rfl ?_
                exact jr.ireturn rfl rfl rfl (q _ (by omega) (by have hka : kA f N C x = r1 := w1_0.symm; first | (unfold dS; rw [hka, if_neg (by omega), if_pos (by omega), ← w25_0, if_neg (by omega), ← w26_0, show hY f N x = v15 from by omega, hD, show N = v18 from by omega, if_pos (by omega), ← w27_0]; unfold dsu; first | (rw [if_pos (by omega)]) | (rw [if_neg (by omega)])) | (unfold dS; rw [hka, if_neg (by omega), if_pos (by omega), ← w25_0, if_neg (by omega), ← w26_0, show hY f N x = v15 from by omega, hD, show N = v18 from by omega, if_neg (by omega), ← w27_0]; unfold dsu; first | (rw [if_pos (by omega)]) | (rw [if_neg (by omega)])) | (exfalso; omega)))
              · exact absurd (by omega) h148
          · refine jr.iconst rfl ?_
            exact jr.ireturn rfl rfl rfl (q _ (by omega) (by have hka : kA f N C x = r1 := w1_0.symm; unfold dS; rw [hka, if_neg (by omega), if_pos (by omega), if_pos (by omega)]))
        · refine jr.iload_n rfl rfl ?_
          refine jr.bipush rfl (by decide) ?_
          refine jr.icmp_ne rfl rfl (by omega) (by omega) (fun h88 => ?_) (fun h88 => ?_)
          · have sx88 : r1 ≤ (8 : Int) := by omega
            refine jr.lload rfl rfl ?_
            refine jr_s rfl rfl (Or.inr rfl) ⟨Nat.le_of_ble_eq_true rfl, Nat.le_of_ble_eq_true rfl⟩ rfl rfl (jc.deep (c_PacketWall_foldedSum_x hC_M (by omega) (fun r28 z28 w28_0 => ?_)) (by decide))
            skip
            refine jr.istore rfl (by decide) rfl ?_
            refine jr.iload_n rfl rfl ?_
            refine jr.bipush rfl (by decide) ?_
            refine jr.icmp_ne rfl rfl (by omega) (by omega) (fun h148 => ?_) (fun h148 => ?_)
            · refine jr.iload rfl rfl ?_
              exact jr.ireturn rfl rfl rfl (q _ (by omega) (by have hka : kA f N C x = r1 := w1_0.symm; first | (unfold dS; rw [hka, if_pos (by omega), hD, ← w28_0]; done) | (unfold dS; rw [hka, if_pos (by omega), hD, ← w28_0]; omega) | (exfalso; omega)))
            · exact absurd (by omega) h148
          · refine jr.aload_n rfl rfl ?_
            refine jr.iload_n rfl rfl ?_
            refine jr_v rfl rfl (Or.inl rfl) rfl rfl (Nat.lt_trans (kx_18 k_t).1 (by decide)) (kx_18 k_t).2 ⟨rfl, Nat.le_of_ble_eq_true rfl, Nat.le_of_ble_eq_true rfl⟩ rfl (jc.deep (c_Headers_nearestNet_x hC_M k_t (by omega) g_C (fun i h0 h1 => (p0.2.2.2.1.2.1 i h0 (by omega)).2.1) (by omega) (fun r29 z29 w29_0 => ?_)) (by decide))
            have hnd := fun h => nxD_p (n := r29) hx0 w29_0 h
            refine jr.istore rfl (by decide) rfl ?_
            refine jr.iload rfl rfl ?_
            refine jr.iconst rfl ?_
            refine jr.icmp_ne rfl rfl (by omega) (by omega) (fun h101 => ?_) (fun h101 => ?_)
            · have sx101 : (0 : Int) ≤ r29 := by omega
              refine jr.lload rfl rfl ?_
              refine jr.aload_n rfl rfl ?_
              refine jr.iload rfl rfl ?_
              obtain ⟨hn1, hn2⟩ := hnd (by omega)
              refine jr_v rfl rfl (Or.inl rfl) rfl rfl (Nat.lt_trans (kx_18 k_t).1 (by decide)) (kx_18 k_t).2 ⟨rfl, Nat.le_of_ble_eq_true rfl, Nat.le_of_ble_eq_true rfl⟩ rfl (jc.deep (c_Headers_addressTwos_x hC_M k_t (by omega) g_C p0 hn1.2 hn2 (fun r30 z30 w30_0 => ?_)) (by decide))
              refine jr.iload rfl rfl ?_
              refine jr.iload_n rfl rfl ?_
              refine jr.isub rfl ?_
              refine jr.i2l rfl (by omega) ?_
              refine jr.ladd rfl ?_
              refine jr.iload_n rfl rfl ?_
              refine jr.bipush rfl (by decide) ?_
              refine jr.icmp_ne rfl rfl (by omega) (by omega) (fun h123 => ?_) (fun h123 => ?_)
              · refine jr.bipush rfl (by decide) ?_
                refine jr.i2l rfl (by omega) ?_
                refine jr.ladd rfl ?_
                refine jr.ladd rfl ?_
                refine jr.lstore rfl (by decide) rfl ?_
                refine jr.lload rfl rfl ?_
                refine jr_s rfl rfl (Or.inr rfl) ⟨Nat.le_of_ble_eq_true rfl, Nat.le_of_ble_eq_true rfl⟩ rfl rfl (jc.deep (c_PacketWall_foldedSum_x hC_M (by omega) (fun r31 z31 w31_0 => ?_)) (by decide))
                skip
                refine jr.istore rfl (by decide) rfl ?_
                refine jr.iload_n rfl rfl ?_
                refine jr.bipush rfl (by decide) ?_
                refine jr.icmp_ne rfl rfl (by omega) (by omega) (fun h148 => ?_) (fun h148 => ?_)
                · exact absurd h148 (by omega)
                · refine jr.iload rfl rfl ?_
                  refine jr.if_ne rfl rfl (by omega) (fun h153 => ?_) (fun h153 => ?_)
                  · have sx153 : (1 : Int) ≤ r31 := by omega
                    refine jr.iload rfl rfl ?_
                    exact jr.ireturn rfl rfl rfl (q _ (by omega) (by have hka : kA f N C x = r1 := w1_0.symm; first | (unfold dS; rw [hka, if_neg (by omega), if_pos (by omega), ← w29_0, if_neg (by omega), ← w30_0, show hY f N x = v15 from by omega, hD, show N = v18 from by omega, if_pos (by omega), ← w31_0]; unfold dsu; first | (rw [if_pos (by omega)]) | (rw [if_neg (by omega)])) | (unfold dS; rw [hka, if_neg (by omega), if_pos (by omega), ← w29_0, if_neg (by omega), ← w30_0, show hY f N x = v15 from by omega, hD, show N = v18 from by omega, if_neg (by omega), ← w31_0]; unfold dsu; first | (rw [if_pos (by omega)]) | (rw [if_neg (by omega)])) | (exfalso; omega)))
                  · refine jr.ldc (x := 65535) rfl rfl (by decide) ?_
                    refine jr.goto rfl rfl ?_
                    exact jr.ireturn rfl rfl rfl (q _ (by omega) (by have hka : kA f N C x = r1 := w1_0.symm; first | (unfold dS; rw [hka, if_neg (by omega), if_pos (by omega), ← w29_0, if_neg (by omega), ← w30_0, show hY f N x = v15 from by omega, hD, show N = v18 from by omega, if_pos (by omega), ← w31_0]; unfold dsu; first | (rw [if_pos (by omega)]) | (rw [if_neg (by omega)])) | (unfold dS; rw [hka, if_neg (by omega), if_pos (by omega), ← w29_0, if_neg (by omega), ← w30_0, show hY f N x = v15 from by omega, hD, show N = v18 from by omega, if_neg (by omega), ← w31_0]; unfold dsu; first | (rw [if_pos (by omega)]) | (rw [if_neg (by omega)])) | (exfalso; omega)))
              · exact absurd (by omega) h123
            · refine jr.iconst rfl ?_
              exact jr.ireturn rfl rfl rfl (q _ (by omega) (by have hka : kA f N C x = r1 := w1_0.symm; unfold dS; rw [hka, if_neg (by omega), if_pos (by omega), if_pos (by omega)]))
      · exact absurd (by omega) h29
    · refine jr.iconst rfl ?_
      exact jr.ireturn rfl rfl rfl (q _ (by omega) (by have hka : kA f N C x = r1 := w1_0.symm; unfold dS; rw [hka, if_neg (by omega), if_neg (by omega)]))
end
section
/-! ===== the class: mend ===== -/
theorem dS_in {f f1 : Int → Int} {N C x d : Int} (hd : d = dS f f1 N C x) : d = -1 ∨ ((0 ≤ x ∧ x < C) ∧ (kA f N C x = 2 ∨ (7 ≤ kA f N C x ∧ kA f N C x ≤ 9))) := by
  by_cases q : kA f N C x = 2 ∨ (7 ≤ kA f N C x ∧ kA f N C x ≤ 9)
  · refine Or.inr ⟨?_, q⟩
    unfold kA at q
    split at q
    · assumption
    · omega
  · left
    rw [hd]
    unfold dS
    rw [if_neg (by omega), if_neg (by omega)]
/-- bytes with a number of n bytes laid at y -/
noncomputable def ptn (f : Int → Int) (y n v : Int) : Int → Int := fun k => if y ≤ k ∧ k < y + n then bt v (y + n - 1 - k) else f k
theorem PN.by8 {T M : jm} {c : Nat} {f : Int → Int} {y n v : Int} (h : PN T M c y n v n 400) (hb : BY8 T c f) : BY8 M c (ptn f y n v) := fun i h0 h1 => by
  rw [h.1 i]
  unfold pnf ptn
  by_cases q : y ≤ i ∧ i < y + n
  · rw [if_pos (by omega), if_pos q, show y + n - 1 - i = y + n - 1 - i from rfl]
    exact ⟨rfl, bt_r _ _⟩
  · rw [if_neg (by omega), if_neg q]
    exact hb i h0 h1
noncomputable def mdt (f f1 : Int → Int) (N C x : Int) : Int := hY f N x + sof (hX f N x)
/-- bytes behind mend(x) -/
noncomputable def mdF (f : Int → Int) (N C x : Int) (f1 : Int → Int) : Int → Int := if dS f f1 N C x = -1 then f1 else ptn f1 (hY f N x + sof (hX f N x)) 2 (dS f f1 N C x)
noncomputable def mdR (f : Int → Int) (N C x : Int) (f1 : Int → Int) : Int := if dS f f1 N C x = -1 then 0 else if tw f1 (hY f N x + sof (hX f N x)) = dS f f1 N C x then 0 else 1
/-- one row has changed, the rest is as it was -/
noncomputable def OR1 (T M : jm) (c : Nat) : Prop := ∀ (b : Nat) (k : Int), b ≠ c → M b k = T b k
theorem byM {M : jm} {t : Nat} {f f1 : Int → Int} {N S : Int} (h : HS2 M t f f1 N) (hS : M t 7 = S) : BY8 M (S.toNat + 1) f1 := by
  have q := h.1
  rw [hS] at q
  exact q
noncomputable def W_c_Headers_mend_x : List (Nat × Nat) := [(34, 1000)]
theorem c_Headers_mend_x {A : Nat → Option (Nat × (Nat → Int32))} {Q : Option Value → jm → Prop} {f f1 : Int → Int} {N : Int} {T : jm} {M : jm} (hC_M : CI M) (ht_M : FR W_c_Headers_mend_x T M) {t : Nat} (k_t : kd t = 18) {x : Int} (h_x : (-2147483648) ≤ x ∧ x ≤ 2147483647) {C : Int} (g_C : M t 3 = C) {S : Int} (g_S : M t 7 = S) (p0 : T = M) (p1 : HS2 M t f f1 N) (q : ∀ (r : Int) (M' : jm), CI M' → FR W_c_Headers_mend_x T M' → 0 ≤ r ∧ r ≤ 1 → (r = mdR f N C x f1 ∧ BY8 M' (S.toNat + 1) (mdF f N C x f1) ∧ OR1 T M' (S.toNat + 1)) → Q (some (.int (Int32.ofInt r))) M') : jc A 5 121 [.ref (t), .int (Int32.ofInt (x))] M Q := by
  refine jc_of (m := xm_121) rfl (Nat.le_of_ble_eq_true rfl) rfl ?_
  have b_C : 0 ≤ C ∧ C ≤ 12 := by rw [← g_C]; exact (CI.r hC_M k_t (by decide) 3)
  have k_S : kd S.toNat = 33 := (congrArg (fun z : Int => kd z.toNat) g_S).symm.trans (CI.x hC_M k_t 7 rfl (by decide))
  refine jr.aload_n rfl rfl ?_
  refine jr.iload_n rfl rfl ?_
  refine jr_v rfl rfl (Or.inl rfl) rfl rfl (Nat.lt_trans (kx_18 k_t).1 (by decide)) (kx_18 k_t).2 ⟨rfl, Nat.le_of_ble_eq_true rfl, Nat.le_of_ble_eq_true rfl⟩ rfl (jc.deep (c_Headers_dueSum_x hC_M k_t (by omega) g_C p1 (fun r1 z1 w1_0 => ?_)) (by decide))
  have hds := dS_in (d := r1) w1_0
  refine jr.istore_n rfl (by decide) rfl ?_
  refine jr.iload_n rfl rfl ?_
  refine jr.iconst rfl ?_
  refine jr.icmp_ne rfl rfl (by omega) (by omega) (fun h8 => ?_) (fun h8 => ?_)
  · refine jr.aload_n rfl rfl ?_
    have k2 := kf_18_1 k_t
    refine jr.getf (i := 1) (v := .ref (t + 2)) rfl rfl (Nat.lt_trans (kx_18 k_t).1 (by decide)) (kx_18 k_t).2 (by decide) rfl rfl rfl (jval_ref rfl k2.1) ?_
    refine jr.iload_n rfl rfl ?_
    obtain ⟨v3, e3⟩ : ∃ z_, M ((t + 2)) x = z_ := ⟨_, rfl⟩
    have b3 : 0 ≤ v3 ∧ v3 ≤ 400 := by rw [← e3]; exact (CI.r hC_M k2.2 (by decide) x)
    refine jr.iald (i := x) (x := v3) rfl (Nat.lt_trans (kx_20 k2.2).1 (by decide)) (kx_20 k2.2).2 (by decide) (by omega) (by omega) e3 ?_
    obtain ⟨hx0, hkx, hyx, hzx, hN4, hA8, hA20, hA2⟩ := ds_f p1 g_C rfl (show kA f N C x = 2 ∨ (7 ≤ kA f N C x ∧ kA f N C x ≤ 9) from (hds.resolve_left (by omega)).2)
    have hr1 := (p1.2.2.2.1.2.1 x hx0.1 (by omega)).2.1
    have so := sof_r (hX f N x)
    refine jr.aload_n rfl rfl ?_
    have k4 := kf_18_0 k_t
    refine jr.getf (i := 0) (v := .ref (t + 1)) rfl rfl (Nat.lt_trans (kx_18 k_t).1 (by decide)) (kx_18 k_t).2 (by decide) rfl rfl rfl (jval_ref rfl k4.1) ?_
    refine jr.iload_n rfl rfl ?_
    obtain ⟨v5, e5⟩ : ∃ z_, M ((t + 1)) x = z_ := ⟨_, rfl⟩
    have b5 : 0 ≤ v5 ∧ v5 ≤ 11 := by rw [← e5]; exact (CI.r hC_M k4.2 (by decide) x)
    refine jr.iald (i := x) (x := v5) rfl (Nat.lt_trans (kx_19 k4.2).1 (by decide)) (kx_19 k4.2).2 (by decide) (by omega) (by omega) e5 ?_
    refine jr_s rfl rfl (Or.inl rfl) ⟨Nat.le_of_ble_eq_true rfl, Nat.le_of_ble_eq_true rfl⟩ rfl rfl (jc.deep (c_Headers_sumOffset_x hC_M (by omega) (fun r6 z6 w6_0 => ?_)) (by decide))
    have hs5 : r6 = sof (hX f N x) := (by rw [w6_0, ← e5, hr1])
    refine jr.iadd rfl ?_
    refine jr.istore_n rfl (by decide) rfl ?_
    refine jr.aload_n rfl rfl ?_
    refine jr.getf (i := 7) (x := S) (v := .ref (S.toNat)) rfl rfl (Nat.lt_trans (kx_18 k_t).1 (by decide)) (kx_18 k_t).2 (by decide) rfl rfl g_S (jval_mut rfl (kn_18_7 k_t)) ?_
    refine jr.iload_n rfl rfl ?_
    refine jr.iconst rfl ?_
    refine jr_v rfl rfl (Or.inl rfl) rfl rfl (Nat.lt_trans (kx_33 k_S).1 (by decide)) (kx_33 k_S).2 ⟨rfl, Nat.le_of_ble_eq_true rfl, Nat.le_of_ble_eq_true rfl⟩ rfl (jc.deep (c_Packet_numberFrom_h hC_M k_S (by omega) (by have hq := p1.1; rw [g_S] at hq; exact hq) (fun r8 z8 w8_0 => ?_)) (by decide))
    refine jr.lstore rfl (by decide) rfl ?_
    refine jr.aload_n rfl rfl ?_
    refine jr.getf (i := 7) (x := S) (v := .ref (S.toNat)) rfl rfl (Nat.lt_trans (kx_18 k_t).1 (by decide)) (kx_18 k_t).2 (by decide) rfl rfl g_S (jval_mut rfl (kn_18_7 k_t)) ?_
    have k10 := kf_33_0 k_S
    refine jr.getf (i := 0) (v := .ref ((S.toNat) + 1)) rfl rfl (Nat.lt_trans (kx_33 k_S).1 (by decide)) (kx_33 k_S).2 (by decide) rfl rfl rfl (jval_ref rfl k10.1) ?_
    refine jr.iload_n rfl rfl ?_
    refine jr.iconst rfl ?_
    refine jr.iload_n rfl rfl ?_
    refine jr.i2l rfl (by omega) ?_
    refine jr_s rfl rfl (Or.inr rfl) ⟨Nat.le_of_ble_eq_true rfl, Nat.le_of_ble_eq_true rfl⟩ rfl rfl (jc.deep (c_PacketWall_putNumber_pf hC_M (FR.rfl _ M) k10.2 (by omega) (by omega) (by omega) rfl (fun M11 hC_M11 hf_M11 w11_0 => ?_)) (by decide))
    have ht_M11 : FR W_c_Headers_mend_x T M11 := FR.t ht_M hf_M11 (kw_sub rfl)
    refine jr.lload rfl rfl ?_
    refine jr.iload_n rfl rfl ?_
    refine jr.i2l rfl (by omega) ?_
    refine jr.lcmp_eq rfl rfl rfl (by omega) (by omega) (fun h59 => ?_) (fun h59 => ?_)
    · refine jr.iconst rfl ?_
      exact jr.ireturn rfl rfl rfl (q _ _ hC_M11 ht_M11 (by omega) (by have hat : hY f N x + sof (hX f N x) = v3 + r6 := (by rw [w6_0, ← hr1, e5]; omega); have hne : ¬ r1 = -1 := (by omega); have e1 : mdR f N C x f1 = (if tw f1 (v3 + r6) = r1 then 0 else 1) := (by unfold mdR; rw [← w1_0, if_neg hne, hat]); have e2 : mdF f N C x f1 = ptn f1 (v3 + r6) 2 r1 := (by unfold mdF; rw [← w1_0, if_neg hne, hat]); rw [e1, e2, ← w8_0.1]; refine ⟨?_, PN.by8 w11_0 (byM p1 g_S), fun b k hb => by rw [w11_0.2 b k hb, p0]⟩; first | (rw [if_pos (by omega)]) | (rw [if_neg (by omega)])))
    · refine jr.iconst rfl ?_
      refine jr.goto rfl rfl ?_
      exact jr.ireturn rfl rfl rfl (q _ _ hC_M11 ht_M11 (by omega) (by have hat : hY f N x + sof (hX f N x) = v3 + r6 := (by rw [w6_0, ← hr1, e5]; omega); have hne : ¬ r1 = -1 := (by omega); have e1 : mdR f N C x f1 = (if tw f1 (v3 + r6) = r1 then 0 else 1) := (by unfold mdR; rw [← w1_0, if_neg hne, hat]); have e2 : mdF f N C x f1 = ptn f1 (v3 + r6) 2 r1 := (by unfold mdF; rw [← w1_0, if_neg hne, hat]); rw [e1, e2, ← w8_0.1]; refine ⟨?_, PN.by8 w11_0 (byM p1 g_S), fun b k hb => by rw [w11_0.2 b k hb, p0]⟩; first | (rw [if_pos (by omega)]) | (rw [if_neg (by omega)])))
  · refine jr.iconst rfl ?_
    exact jr.ireturn rfl rfl rfl (q _ _ hC_M ht_M (by omega) (by unfold mdR mdF; rw [← w1_0, if_pos (by omega), if_pos (by omega)]; exact ⟨rfl, byM p1 g_S, fun _ _ _ => by rw [p0]⟩))
end
section
/-! ===== the class: the calls on headers ===== -/
noncomputable def crr (f : Int → Int) (N : Int) : Nat → Int → Int
  | 0, _ => 0
  | n + 1, i => if 7 ≤ hX f N i ∧ hX f N i ≤ 9 then 1 + crr f N n (i + 1) else 0
theorem cr_s {f : Int → Int} {N n i : Int} (h : 0 < n) : crr f N n.toNat i = if 7 ≤ hX f N i ∧ hX f N i ≤ 9 then 1 + crr f N (n - 1).toNat (i + 1) else 0 := by
  obtain ⟨m, hm⟩ : ∃ m : Nat, n = m + 1 := ⟨(n - 1).toNat, by omega⟩
  subst hm
  rw [show ((m : Int) + 1).toNat = m + 1 by omega, show ((m : Int) + 1 - 1).toNat = m by omega]
  rfl
theorem cr_0 {f : Int → Int} {N n i : Int} (h : n ≤ 0) : crr f N n.toNat i = 0 := by
  rw [show n.toNat = 0 by omega]
  rfl
noncomputable def RDF (f : Int → Int) (N C a b c d r : Int) : Prop := b = C ∧ ((hX f N C = -1 ∧ a = 0 ∧ c = -1 ∧ d = -1 ∧ r = C) ∨ (hX f N C ≠ -1 ∧ hF f N C ≠ 0 ∧ a = hF f N C ∧ c = hW f N C ∧ d = hX f N C ∧ r = -10 - a))
/-- bytes and answer of repair: headers below n are mended, the last first -/
noncomputable def rpF (f : Int → Int) (N C : Int) : Nat → (Int → Int) → (Int → Int)
  | 0, g => g
  | n + 1, g => rpF f N C n (mdF f N C (n : Int) g)
noncomputable def rpN (f : Int → Int) (N C : Int) : Nat → (Int → Int) → Int
  | 0, _ => 0
  | n + 1, g => mdR f N C (n : Int) g + rpN f N C n (mdF f N C (n : Int) g)
theorem rp_s {f : Int → Int} {N C i : Int} {g : Int → Int} (h : 0 ≤ i) : rpF f N C (i + 1).toNat g = rpF f N C i.toNat (mdF f N C i g) ∧ rpN f N C (i + 1).toNat g = mdR f N C i g + rpN f N C i.toNat (mdF f N C i g) := by
  obtain ⟨m, rfl⟩ := Int.eq_ofNat_of_zero_le h
  rw [show ((m : Int) + 1).toNat = m + 1 by omega, show ((m : Int)).toNat = m by omega]
  exact ⟨rfl, rfl⟩
theorem rp_0 {f : Int → Int} {N C i : Int} {g : Int → Int} (h : i < 0) : rpF f N C (i + 1).toNat g = g ∧ rpN f N C (i + 1).toNat g = 0 := by
  rw [show (i + 1).toNat = 0 by omega]
  exact ⟨rfl, rfl⟩
noncomputable def W_c_PacketWall_kind_x : List (Nat × Nat) := [(18, 3), (18, 4), (18, 5), (18, 6), (18, 7), (19, 1000), (20, 1000), (21, 1000)]
theorem c_PacketWall_kind_x {A : Nat → Option (Nat × (Nat → Int32))} {Q : Option Value → jm → Prop} {f : Int → Int} {T : jm} {M : jm} (hC_M : CI M) (ht_M : FR W_c_PacketWall_kind_x T M) {x : Int} (h_x : (-2147483648) ≤ x ∧ x ≤ 2147483647) {y : Int} (h_y : (-2147483648) ≤ y ∧ y ≤ 2147483647) (p0 : T = M) (p1 : ((0 ≤ x ∧ x ≤ 23) → BY8 M ((xe 2 x) + 1) f)) (q : ∀ (r : Int) (M' : jm), CI M' → FR W_c_PacketWall_kind_x T M' → (-2147483648) ≤ r ∧ r ≤ 2147483647 → (((x < 0 ∨ 23 < x ∨ T (xe 2 x) 1 = -1) ∧ r = -2) ∨ (((0 ≤ x ∧ x ≤ 23) ∧ T (xe 2 x) 1 ≠ -1) ∧ ∃ C : Int, HE f (T (xe 2 x) 1) C ∧ r = kA f (T (xe 2 x) 1) C y)) → Q (some (.int (Int32.ofInt r))) M') : jc A 6 8 [.ref (0), .int (Int32.ofInt (x)), .int (Int32.ofInt (y))] M Q := by
  refine jc_of (m := xm_8) rfl (Nat.le_of_ble_eq_true rfl) rfl ?_
  refine jr.aload_n rfl rfl ?_
  refine jr.iload_n rfl rfl ?_
  refine jr_v rfl rfl (Or.inl rfl) rfl rfl (by decide) rfl ⟨rfl, Nat.le_of_ble_eq_true rfl, Nat.le_of_ble_eq_true rfl⟩ rfl (jc.deep (c_PacketWall_isPacket_x hC_M (by omega) (fun r1 z1 w1_0 w1_1 => ?_)) (by decide))
  refine jr.if_ne rfl rfl (by omega) (fun h5 => ?_) (fun h5 => ?_)
  · have sx5 : (1 : Int) ≤ r1 := by omega
    refine jr.aload_n rfl rfl ?_
    refine jr.getf (i := 3) (v := .ref 3) rfl rfl (by decide) rfl (by decide) rfl rfl rfl rfl ?_
    refine jr.aload_n rfl rfl ?_
    refine jr.getf (i := 2) (v := .ref 2) rfl rfl (by decide) rfl (by decide) rfl rfl rfl rfl ?_
    refine jr.iload_n rfl rfl ?_
    have k2 := kxe_42 (a := 2) rfl (i := x) (by omega) (by omega)
    refine jr.aald (c := (xe 2 x)) rfl (by decide) rfl (by decide) (by decide) rfl (by decide) (by omega) (by omega) k2.1 ?_
    obtain ⟨v4, e4⟩ : ∃ z_, M ((xe 2 x)) 1 = z_ := ⟨_, rfl⟩
    have b4 : (-1) ≤ v4 ∧ v4 ≤ 400 := by rw [← e4]; exact (CI.r hC_M k2.2 (by decide) 1)
    refine jr_v rfl rfl (Or.inl rfl) rfl rfl (by decide) rfl ⟨rfl, Nat.le_of_ble_eq_true rfl, Nat.le_of_ble_eq_true rfl⟩ rfl (jc.deep (c_Headers_readAll_x hC_M (FR.rfl _ M) (show kd 3 = 18 from rfl) k2.2 e4 (p1 (by omega)) (fun M3 hC_M3 hf_M3 w3_0 w3_1 w3_2 => ?_)) (by decide))
    have ht_M3 : FR W_c_PacketWall_kind_x T M3 := FR.t ht_M hf_M3 (kw_sub rfl)
    refine jr.aload_n rfl rfl ?_
    refine jr.getf (i := 3) (v := .ref 3) rfl rfl (by decide) rfl (by decide) rfl rfl rfl rfl ?_
    refine jr.iload_n rfl rfl ?_
    obtain ⟨v6, e6⟩ : ∃ z_, M3 3 3 = z_ := ⟨_, rfl⟩
    have b6 : 0 ≤ v6 ∧ v6 ≤ 12 := by rw [← e6]; exact (CI.r hC_M3 (show kd 3 = 18 from rfl) (by decide) 3)
    refine jr_v rfl rfl (Or.inl rfl) rfl rfl (by decide) rfl ⟨rfl, Nat.le_of_ble_eq_true rfl, Nat.le_of_ble_eq_true rfl⟩ rfl (jc.deep (c_Headers_kindAt_x hC_M3 (show kd 3 = 18 from rfl) (by omega) e6 ((w3_1.resolve_left (fun h => by omega)).2) (fun r5 z5 w5_0 => ?_)) (by decide))
    exact jr.ireturn rfl rfl rfl (q _ _ hC_M3 ht_M3 (by omega) (Or.inr ⟨by rw [p0]; omega, by rw [p0, e4]; exact ⟨v6, (by have hq := HQ.e ((w3_1.resolve_left (fun h => by omega)).2).2.2.2; rw [e6] at hq; exact hq), w5_0⟩⟩))
  · refine jr.bipush rfl (by decide) ?_
    exact jr.ireturn rfl rfl rfl (q _ _ hC_M ht_M (by omega) (Or.inl ⟨by rw [p0]; omega, by omega⟩))
noncomputable def W_c_PacketWall_place_x : List (Nat × Nat) := [(18, 3), (18, 4), (18, 5), (18, 6), (18, 7), (19, 1000), (20, 1000), (21, 1000)]
theorem c_PacketWall_place_x {A : Nat → Option (Nat × (Nat → Int32))} {Q : Option Value → jm → Prop} {f : Int → Int} {T : jm} {M : jm} (hC_M : CI M) (ht_M : FR W_c_PacketWall_place_x T M) {x : Int} (h_x : (-2147483648) ≤ x ∧ x ≤ 2147483647) {y : Int} (h_y : (-2147483648) ≤ y ∧ y ≤ 2147483647) (p0 : T = M) (p1 : ((0 ≤ x ∧ x ≤ 23) → BY8 M ((xe 2 x) + 1) f)) (q : ∀ (r : Int) (M' : jm), CI M' → FR W_c_PacketWall_place_x T M' → (-2147483648) ≤ r ∧ r ≤ 2147483647 → (((x < 0 ∨ 23 < x ∨ T (xe 2 x) 1 = -1) ∧ r = -2) ∨ (((0 ≤ x ∧ x ≤ 23) ∧ T (xe 2 x) 1 ≠ -1) ∧ ∃ C : Int, HE f (T (xe 2 x) 1) C ∧ r = pA f (T (xe 2 x) 1) C y)) → Q (some (.int (Int32.ofInt r))) M') : jc A 6 10 [.ref (0), .int (Int32.ofInt (x)), .int (Int32.ofInt (y))] M Q := by
  refine jc_of (m := xm_10) rfl (Nat.le_of_ble_eq_true rfl) rfl ?_
  refine jr.aload_n rfl rfl ?_
  refine jr.iload_n rfl rfl ?_
  refine jr_v rfl rfl (Or.inl rfl) rfl rfl (by decide) rfl ⟨rfl, Nat.le_of_ble_eq_true rfl, Nat.le_of_ble_eq_true rfl⟩ rfl (jc.deep (c_PacketWall_isPacket_x hC_M (by omega) (fun r1 z1 w1_0 w1_1 => ?_)) (by decide))
  refine jr.if_ne rfl rfl (by omega) (fun h5 => ?_) (fun h5 => ?_)
  · have sx5 : (1 : Int) ≤ r1 := by omega
    refine jr.aload_n rfl rfl ?_
    refine jr.getf (i := 3) (v := .ref 3) rfl rfl (by decide) rfl (by decide) rfl rfl rfl rfl ?_
    refine jr.aload_n rfl rfl ?_
    refine jr.getf (i := 2) (v := .ref 2) rfl rfl (by decide) rfl (by decide) rfl rfl rfl rfl ?_
    refine jr.iload_n rfl rfl ?_
    have k2 := kxe_42 (a := 2) rfl (i := x) (by omega) (by omega)
    refine jr.aald (c := (xe 2 x)) rfl (by decide) rfl (by decide) (by decide) rfl (by decide) (by omega) (by omega) k2.1 ?_
    obtain ⟨v4, e4⟩ : ∃ z_, M ((xe 2 x)) 1 = z_ := ⟨_, rfl⟩
    have b4 : (-1) ≤ v4 ∧ v4 ≤ 400 := by rw [← e4]; exact (CI.r hC_M k2.2 (by decide) 1)
    refine jr_v rfl rfl (Or.inl rfl) rfl rfl (by decide) rfl ⟨rfl, Nat.le_of_ble_eq_true rfl, Nat.le_of_ble_eq_true rfl⟩ rfl (jc.deep (c_Headers_readAll_x hC_M (FR.rfl _ M) (show kd 3 = 18 from rfl) k2.2 e4 (p1 (by omega)) (fun M3 hC_M3 hf_M3 w3_0 w3_1 w3_2 => ?_)) (by decide))
    have ht_M3 : FR W_c_PacketWall_place_x T M3 := FR.t ht_M hf_M3 (kw_sub rfl)
    refine jr.aload_n rfl rfl ?_
    refine jr.getf (i := 3) (v := .ref 3) rfl rfl (by decide) rfl (by decide) rfl rfl rfl rfl ?_
    refine jr.iload_n rfl rfl ?_
    obtain ⟨v6, e6⟩ : ∃ z_, M3 3 3 = z_ := ⟨_, rfl⟩
    have b6 : 0 ≤ v6 ∧ v6 ≤ 12 := by rw [← e6]; exact (CI.r hC_M3 (show kd 3 = 18 from rfl) (by decide) 3)
    refine jr_v rfl rfl (Or.inl rfl) rfl rfl (by decide) rfl ⟨rfl, Nat.le_of_ble_eq_true rfl, Nat.le_of_ble_eq_true rfl⟩ rfl (jc.deep (c_Headers_placeAt_x hC_M3 (show kd 3 = 18 from rfl) (by omega) e6 ((w3_1.resolve_left (fun h => by omega)).2) (fun r5 z5 w5_0 => ?_)) (by decide))
    exact jr.ireturn rfl rfl rfl (q _ _ hC_M3 ht_M3 (by omega) (Or.inr ⟨by rw [p0]; omega, by rw [p0, e4]; exact ⟨v6, (by have hq := HQ.e ((w3_1.resolve_left (fun h => by omega)).2).2.2.2; rw [e6] at hq; exact hq), w5_0⟩⟩))
  · refine jr.bipush rfl (by decide) ?_
    exact jr.ireturn rfl rfl rfl (q _ _ hC_M ht_M (by omega) (Or.inl ⟨by rw [p0]; omega, by omega⟩))
noncomputable def W_c_PacketWall_field_x : List (Nat × Nat) := [(18, 3), (18, 4), (18, 5), (18, 6), (18, 7), (19, 1000), (20, 1000), (21, 1000)]
theorem c_PacketWall_field_x {A : Nat → Option (Nat × (Nat → Int32))} {Q : Option Value → jm → Prop} {f : Int → Int} {T : jm} {M : jm} (hC_M : CI M) (ht_M : FR W_c_PacketWall_field_x T M) {x : Int} (h_x : (-2147483648) ≤ x ∧ x ≤ 2147483647) {y : Int} (h_y : (-2147483648) ≤ y ∧ y ≤ 2147483647) {z : Int} (h_z : (-2147483648) ≤ z ∧ z ≤ 2147483647) (p0 : T = M) (p1 : ((0 ≤ x ∧ x ≤ 23) → BY8 M ((xe 2 x) + 1) f)) (q : ∀ (r : Int) (M' : jm), CI M' → FR W_c_PacketWall_field_x T M' → (-9223372036854775808) ≤ r ∧ r ≤ 9223372036854775807 → (((x < 0 ∨ 23 < x ∨ T (xe 2 x) 1 = -1) ∧ r = -2) ∨ (((0 ≤ x ∧ x ≤ 23) ∧ T (xe 2 x) 1 ≠ -1) ∧ ∃ C : Int, HE f (T (xe 2 x) 1) C ∧ r = vA f (T (xe 2 x) 1) C y z)) → Q (some (.long (Int64.ofInt r))) M') : jc A 6 9 [.ref (0), .int (Int32.ofInt (x)), .int (Int32.ofInt (y)), .int (Int32.ofInt (z))] M Q := by
  refine jc_of (m := xm_9) rfl (Nat.le_of_ble_eq_true rfl) rfl ?_
  refine jr.aload_n rfl rfl ?_
  refine jr.iload_n rfl rfl ?_
  refine jr_v rfl rfl (Or.inl rfl) rfl rfl (by decide) rfl ⟨rfl, Nat.le_of_ble_eq_true rfl, Nat.le_of_ble_eq_true rfl⟩ rfl (jc.deep (c_PacketWall_isPacket_x hC_M (by omega) (fun r1 z1 w1_0 w1_1 => ?_)) (by decide))
  refine jr.if_ne rfl rfl (by omega) (fun h5 => ?_) (fun h5 => ?_)
  · have sx5 : (1 : Int) ≤ r1 := by omega
    refine jr.aload_n rfl rfl ?_
    refine jr.getf (i := 3) (v := .ref 3) rfl rfl (by decide) rfl (by decide) rfl rfl rfl rfl ?_
    refine jr.aload_n rfl rfl ?_
    refine jr.getf (i := 2) (v := .ref 2) rfl rfl (by decide) rfl (by decide) rfl rfl rfl rfl ?_
    refine jr.iload_n rfl rfl ?_
    have k2 := kxe_42 (a := 2) rfl (i := x) (by omega) (by omega)
    refine jr.aald (c := (xe 2 x)) rfl (by decide) rfl (by decide) (by decide) rfl (by decide) (by omega) (by omega) k2.1 ?_
    obtain ⟨v4, e4⟩ : ∃ z_, M ((xe 2 x)) 1 = z_ := ⟨_, rfl⟩
    have b4 : (-1) ≤ v4 ∧ v4 ≤ 400 := by rw [← e4]; exact (CI.r hC_M k2.2 (by decide) 1)
    refine jr_v rfl rfl (Or.inl rfl) rfl rfl (by decide) rfl ⟨rfl, Nat.le_of_ble_eq_true rfl, Nat.le_of_ble_eq_true rfl⟩ rfl (jc.deep (c_Headers_readAll_x hC_M (FR.rfl _ M) (show kd 3 = 18 from rfl) k2.2 e4 (p1 (by omega)) (fun M3 hC_M3 hf_M3 w3_0 w3_1 w3_2 => ?_)) (by decide))
    have ht_M3 : FR W_c_PacketWall_field_x T M3 := FR.t ht_M hf_M3 (kw_sub rfl)
    refine jr.aload_n rfl rfl ?_
    refine jr.getf (i := 3) (v := .ref 3) rfl rfl (by decide) rfl (by decide) rfl rfl rfl rfl ?_
    refine jr.iload_n rfl rfl ?_
    refine jr.iload_n rfl rfl ?_
    obtain ⟨v6, e6⟩ : ∃ z_, M3 3 3 = z_ := ⟨_, rfl⟩
    have b6 : 0 ≤ v6 ∧ v6 ≤ 12 := by rw [← e6]; exact (CI.r hC_M3 (show kd 3 = 18 from rfl) (by decide) 3)
    refine jr_v rfl rfl (Or.inl rfl) rfl rfl (by decide) rfl ⟨rfl, Nat.le_of_ble_eq_true rfl, Nat.le_of_ble_eq_true rfl⟩ rfl (jc.deep (c_Headers_valueOf_x hC_M3 (show kd 3 = 18 from rfl) (by omega) (by omega) e6 ((w3_1.resolve_left (fun h => by omega)).2) (fun r5 z5 w5_0 => ?_)) (by decide))
    exact jr.lreturn rfl rfl (q _ _ hC_M3 ht_M3 (by omega) (Or.inr ⟨by rw [p0]; omega, by rw [p0, e4]; exact ⟨v6, (by have hq := HQ.e ((w3_1.resolve_left (fun h => by omega)).2).2.2.2; rw [e6] at hq; exact hq), w5_0⟩⟩))
  · refine jr.ldc2 (x := (-2)) rfl rfl (by decide) ?_
    exact jr.lreturn rfl rfl (q _ _ hC_M ht_M (by omega) (Or.inl ⟨by rw [p0]; omega, by omega⟩))
noncomputable def W_c_PacketWall_sum_x : List (Nat × Nat) := [(18, 3), (18, 4), (18, 5), (18, 6), (18, 7), (19, 1000), (20, 1000), (21, 1000)]
theorem c_PacketWall_sum_x {A : Nat → Option (Nat × (Nat → Int32))} {Q : Option Value → jm → Prop} {f : Int → Int} {T : jm} {M : jm} (hC_M : CI M) (ht_M : FR W_c_PacketWall_sum_x T M) {x : Int} (h_x : (-2147483648) ≤ x ∧ x ≤ 2147483647) {y : Int} (h_y : (-2147483648) ≤ y ∧ y ≤ 2147483647) (p0 : T = M) (p1 : ((0 ≤ x ∧ x ≤ 23) → BY8 M ((xe 2 x) + 1) f)) (q : ∀ (r : Int) (M' : jm), CI M' → FR W_c_PacketWall_sum_x T M' → (-2147483648) ≤ r ∧ r ≤ 2147483647 → (((x < 0 ∨ 23 < x ∨ T (xe 2 x) 1 = -1) ∧ r = -2) ∨ (((0 ≤ x ∧ x ≤ 23) ∧ T (xe 2 x) 1 ≠ -1) ∧ ∃ C : Int, HE f (T (xe 2 x) 1) C ∧ r = dS f f (T (xe 2 x) 1) C y)) → Q (some (.int (Int32.ofInt r))) M') : jc A 6 12 [.ref (0), .int (Int32.ofInt (x)), .int (Int32.ofInt (y))] M Q := by
  refine jc_of (m := xm_12) rfl (Nat.le_of_ble_eq_true rfl) rfl ?_
  refine jr.aload_n rfl rfl ?_
  refine jr.iload_n rfl rfl ?_
  refine jr_v rfl rfl (Or.inl rfl) rfl rfl (by decide) rfl ⟨rfl, Nat.le_of_ble_eq_true rfl, Nat.le_of_ble_eq_true rfl⟩ rfl (jc.deep (c_PacketWall_isPacket_x hC_M (by omega) (fun r1 z1 w1_0 w1_1 => ?_)) (by decide))
  refine jr.if_ne rfl rfl (by omega) (fun h5 => ?_) (fun h5 => ?_)
  · have sx5 : (1 : Int) ≤ r1 := by omega
    refine jr.aload_n rfl rfl ?_
    refine jr.getf (i := 3) (v := .ref 3) rfl rfl (by decide) rfl (by decide) rfl rfl rfl rfl ?_
    refine jr.aload_n rfl rfl ?_
    refine jr.getf (i := 2) (v := .ref 2) rfl rfl (by decide) rfl (by decide) rfl rfl rfl rfl ?_
    refine jr.iload_n rfl rfl ?_
    have k2 := kxe_42 (a := 2) rfl (i := x) (by omega) (by omega)
    refine jr.aald (c := (xe 2 x)) rfl (by decide) rfl (by decide) (by decide) rfl (by decide) (by omega) (by omega) k2.1 ?_
    obtain ⟨v4, e4⟩ : ∃ z_, M ((xe 2 x)) 1 = z_ := ⟨_, rfl⟩
    have b4 : (-1) ≤ v4 ∧ v4 ≤ 400 := by rw [← e4]; exact (CI.r hC_M k2.2 (by decide) 1)
    refine jr_v rfl rfl (Or.inl rfl) rfl rfl (by decide) rfl ⟨rfl, Nat.le_of_ble_eq_true rfl, Nat.le_of_ble_eq_true rfl⟩ rfl (jc.deep (c_Headers_readAll_x hC_M (FR.rfl _ M) (show kd 3 = 18 from rfl) k2.2 e4 (p1 (by omega)) (fun M3 hC_M3 hf_M3 w3_0 w3_1 w3_2 => ?_)) (by decide))
    have ht_M3 : FR W_c_PacketWall_sum_x T M3 := FR.t ht_M hf_M3 (kw_sub rfl)
    refine jr.aload_n rfl rfl ?_
    refine jr.getf (i := 3) (v := .ref 3) rfl rfl (by decide) rfl (by decide) rfl rfl rfl rfl ?_
    refine jr.iload_n rfl rfl ?_
    obtain ⟨v6, e6⟩ : ∃ z_, M3 3 3 = z_ := ⟨_, rfl⟩
    have b6 : 0 ≤ v6 ∧ v6 ≤ 12 := by rw [← e6]; exact (CI.r hC_M3 (show kd 3 = 18 from rfl) (by decide) 3)
    refine jr_v rfl rfl (Or.inl rfl) rfl rfl (by decide) rfl ⟨rfl, Nat.le_of_ble_eq_true rfl, Nat.le_of_ble_eq_true rfl⟩ rfl (jc.deep (c_Headers_dueSum_x hC_M3 (show kd 3 = 18 from rfl) (by omega) e6 ((w3_1.resolve_left (fun h => by omega)).2).two (fun r5 z5 w5_0 => ?_)) (by decide))
    exact jr.ireturn rfl rfl rfl (q _ _ hC_M3 ht_M3 (by omega) (Or.inr ⟨by rw [p0]; omega, by rw [p0, e4]; exact ⟨v6, (by have hq := HQ.e ((w3_1.resolve_left (fun h => by omega)).2).2.2.2; rw [e6] at hq; exact hq), w5_0⟩⟩))
  · refine jr.bipush rfl (by decide) ?_
    exact jr.ireturn rfl rfl rfl (q _ _ hC_M ht_M (by omega) (Or.inl ⟨by rw [p0]; omega, by omega⟩))
theorem c_PacketWall_finding_x {A : Nat → Option (Nat × (Nat → Int32))} {Q : Option Value → jm → Prop} {M : jm} (hC_M : CI M) {x : Int} (h_x : (-2147483648) ≤ x ∧ x ≤ 2147483647) (q : ∀ (r : Int), (-2147483648) ≤ r ∧ r ≤ 2147483647 → (((0 ≤ x ∧ x < 4) ∧ r = M 9 x) ∨ ((x < 0 ∨ 4 ≤ x) ∧ r = -3)) → Q (some (.int (Int32.ofInt r))) M) : jc A 1 7 [.ref (0), .int (Int32.ofInt (x))] M Q := by
  refine jc_of (m := xm_7) rfl (Nat.le_of_ble_eq_true rfl) rfl ?_
  refine jr.iload_n rfl rfl ?_
  refine jr.if_lt rfl rfl (by omega) (fun h1 => ?_) (fun h1 => ?_)
  · refine jr.bipush rfl (by decide) ?_
    refine jr.goto rfl rfl ?_
    exact jr.ireturn rfl rfl rfl (q _ (by omega) (by omega))
  · refine jr.iload_n rfl rfl ?_
    refine jr.aload_n rfl rfl ?_
    refine jr.getf (i := 4) (v := .ref 9) rfl rfl (by decide) rfl (by decide) rfl rfl rfl rfl ?_
    refine jr.alen0 (x := 4) rfl (by decide) rfl rfl ?_
    refine jr.icmp_lt rfl rfl (by omega) (by omega) (fun h10 => ?_) (fun h10 => ?_)
    · refine jr.aload_n rfl rfl ?_
      refine jr.getf (i := 4) (v := .ref 9) rfl rfl (by decide) rfl (by decide) rfl rfl rfl rfl ?_
      refine jr.iload_n rfl rfl ?_
      obtain ⟨v1, e1⟩ : ∃ z_, M 9 x = z_ := ⟨_, rfl⟩
      have b1 : (-2147483648) ≤ v1 ∧ v1 ≤ 2147483647 := by rw [← e1]; exact (CI.r hC_M (show kd 9 = 39 from rfl) (by decide) x)
      refine jr.iald (i := x) (x := v1) rfl (by decide) rfl (by decide) (by omega) (by omega) e1 ?_
      exact jr.ireturn rfl rfl rfl (q _ (by omega) (by omega))
    · refine jr.bipush rfl (by decide) ?_
      refine jr.goto rfl rfl ?_
      exact jr.ireturn rfl rfl rfl (q _ (by omega) (by omega))
noncomputable def W_c_PacketWall_carried_x : List (Nat × Nat) := [(18, 3), (18, 4), (18, 5), (18, 6), (18, 7), (19, 1000), (20, 1000), (21, 1000)]
theorem c_PacketWall_carried_x_L62 {A : Nat → Option (Nat × (Nat → Int32))} {Q : Option Value → jm → Prop} {f : Int → Int} {T : jm} {C : Int} {x : Int} {y : Int} {z : Int} (q : ∀ (r : Int) (M' : jm), CI M' → FR W_c_PacketWall_carried_x T M' → (-2147483648) ≤ r ∧ r ≤ 2147483647 → (((x < 0 ∨ 23 < x ∨ T (xe 2 x) 1 = -1) ∧ r = -2) ∨ (((0 ≤ x ∧ x ≤ 23) ∧ T (xe 2 x) 1 ≠ -1) ∧ ∃ C : Int, HE f (T (xe 2 x) 1) C ∧ (((y < 0 ∨ z < 0 ∨ C < y + z) ∧ r = -3) ∨ ((0 ≤ y ∧ 0 ≤ z ∧ y + z ≤ C) ∧ r = crr f (T (xe 2 x) 1) z.toNat y)))) → Q (some (.int (Int32.ofInt r))) M') : ∀ (nM : Nat) (M : jm) (w : Int), CI M → FR W_c_PacketWall_carried_x T M → 0 ≤ x ∧ x ≤ 23 → 0 ≤ y ∧ y ≤ 12 → 0 ≤ z ∧ z ≤ 12 → 0 ≤ w ∧ w ≤ 12 → M 3 3 = C → (HS M 3 f (T (xe 2 x) 1)) → (crr f (T (xe 2 x) 1) z.toNat y = w + crr f (T (xe 2 x) 1) (z - w).toNat (y + w)) → (y + z ≤ C ∧ w ≤ z) → (T (xe 2 x) 1 ≠ -1) → 12 - w ≤ nM → jr A 5 xm_11 62 [(1, .int (Int32.ofInt (x))), (2, .int (Int32.ofInt (y))), (3, .int (Int32.ofInt (z))), (4, .int (Int32.ofInt (w))), (0, .ref (0))] [] M Q := by
  intro nM
  induction nM using Nat.strongRecOn with
  | ind nM ih =>
    intro M w hC_M ht_M h_x h_y h_z h_w g_C hy0 hy1 hy2 hy3 hm
    have b_C : 0 ≤ C ∧ C ≤ 12 := by rw [← g_C]; exact (CI.r hC_M (show kd 3 = 18 from rfl) (by decide) 3)
    refine jr.iload rfl rfl ?_
    refine jr.iload_n rfl rfl ?_
    refine jr.icmp_ge rfl rfl (by omega) (by omega) (fun h65 => ?_) (fun h65 => ?_)
    · refine jr.iload rfl rfl ?_
      exact jr.ireturn rfl rfl rfl (q _ _ hC_M ht_M (by omega) (Or.inr ⟨by omega, C, (by have hq := HQ.e hy0.2.2.2; rw [g_C] at hq; exact hq), Or.inr ⟨by omega, by first | (rw [hy1, cr_0 (by omega)]; omega) | (rw [hy1, cr_s (by omega), if_neg (by rw [← kA_i (C := C) (by omega), ← w0_0]; omega)]; omega)⟩⟩))
    · refine jr.aload_n rfl rfl ?_
      refine jr.getf (i := 3) (v := .ref 3) rfl rfl (by decide) rfl (by decide) rfl rfl rfl rfl ?_
      refine jr.iload_n rfl rfl ?_
      refine jr.iload rfl rfl ?_
      refine jr.iadd rfl ?_
      refine jr_v rfl rfl (Or.inl rfl) rfl rfl (by decide) rfl ⟨rfl, Nat.le_of_ble_eq_true rfl, Nat.le_of_ble_eq_true rfl⟩ rfl (jc.deep (c_Headers_kindAt_x hC_M (show kd 3 = 18 from rfl) (by omega) g_C hy0 (fun r1 z1 w1_0 => ?_)) (by decide))
      refine jr_s rfl rfl (Or.inl rfl) ⟨Nat.le_of_ble_eq_true rfl, Nat.le_of_ble_eq_true rfl⟩ rfl rfl (jc.deep (c_PacketWall_isCarriedKind_x hC_M (by omega) (fun r2 z2 w2_0 w2_1 => ?_)) (by decide))
      refine jr.if_eq rfl rfl (by omega) (fun h82 => ?_) (fun h82 => ?_)
      · refine jr.iload rfl rfl ?_
        exact jr.ireturn rfl rfl rfl (q _ _ hC_M ht_M (by omega) (Or.inr ⟨by omega, C, (by have hq := HQ.e hy0.2.2.2; rw [g_C] at hq; exact hq), Or.inr ⟨by omega, by first | (rw [hy1, cr_0 (by omega)]; omega) | (rw [hy1, cr_s (by omega), if_neg (by rw [← kA_i (C := C) (by omega), ← w1_0]; omega)]; omega)⟩⟩))
      · have sx82 : (1 : Int) ≤ r2 := by omega
        refine jr.iinc rfl rfl (by decide) rfl ?_
        refine jr.goto rfl rfl ?_
        refine jr.pick [1, 2, 3, 0, 4] rfl rfl ?_
        exact ih (nM - 1) (by omega) M (w + 1) hC_M ht_M (by omega) (by omega) (by omega) (by omega) g_C hy0 (by rw [hy1, cr_s (by omega), if_pos (by rw [← kA_i (C := C) (by omega), ← w1_0]; omega), show z - w - 1 = z - (w + 1) from by omega, show y + w + 1 = y + (w + 1) from by omega]; omega) (by omega) hy3 (by omega)
theorem c_PacketWall_carried_x {A : Nat → Option (Nat × (Nat → Int32))} {Q : Option Value → jm → Prop} {f : Int → Int} {T : jm} {M : jm} (hC_M : CI M) (ht_M : FR W_c_PacketWall_carried_x T M) {x : Int} (h_x : (-2147483648) ≤ x ∧ x ≤ 2147483647) {y : Int} (h_y : (-2147483648) ≤ y ∧ y ≤ 2147483647) {z : Int} (h_z : (-2147483648) ≤ z ∧ z ≤ 2147483647) (p0 : T = M) (p1 : ((0 ≤ x ∧ x ≤ 23) → BY8 M ((xe 2 x) + 1) f)) (q : ∀ (r : Int) (M' : jm), CI M' → FR W_c_PacketWall_carried_x T M' → (-2147483648) ≤ r ∧ r ≤ 2147483647 → (((x < 0 ∨ 23 < x ∨ T (xe 2 x) 1 = -1) ∧ r = -2) ∨ (((0 ≤ x ∧ x ≤ 23) ∧ T (xe 2 x) 1 ≠ -1) ∧ ∃ C : Int, HE f (T (xe 2 x) 1) C ∧ (((y < 0 ∨ z < 0 ∨ C < y + z) ∧ r = -3) ∨ ((0 ≤ y ∧ 0 ≤ z ∧ y + z ≤ C) ∧ r = crr f (T (xe 2 x) 1) z.toNat y)))) → Q (some (.int (Int32.ofInt r))) M') : jc A 6 11 [.ref (0), .int (Int32.ofInt (x)), .int (Int32.ofInt (y)), .int (Int32.ofInt (z))] M Q := by
  refine jc_of (m := xm_11) rfl (Nat.le_of_ble_eq_true rfl) rfl ?_
  refine jr.aload_n rfl rfl ?_
  refine jr.iload_n rfl rfl ?_
  refine jr_v rfl rfl (Or.inl rfl) rfl rfl (by decide) rfl ⟨rfl, Nat.le_of_ble_eq_true rfl, Nat.le_of_ble_eq_true rfl⟩ rfl (jc.deep (c_PacketWall_isPacket_x hC_M (by omega) (fun r1 z1 w1_0 w1_1 => ?_)) (by decide))
  refine jr.if_ne rfl rfl (by omega) (fun h5 => ?_) (fun h5 => ?_)
  · have sx5 : (1 : Int) ≤ r1 := by omega
    refine jr.aload_n rfl rfl ?_
    refine jr.getf (i := 3) (v := .ref 3) rfl rfl (by decide) rfl (by decide) rfl rfl rfl rfl ?_
    refine jr.aload_n rfl rfl ?_
    refine jr.getf (i := 2) (v := .ref 2) rfl rfl (by decide) rfl (by decide) rfl rfl rfl rfl ?_
    refine jr.iload_n rfl rfl ?_
    have k2 := kxe_42 (a := 2) rfl (i := x) (by omega) (by omega)
    refine jr.aald (c := (xe 2 x)) rfl (by decide) rfl (by decide) (by decide) rfl (by decide) (by omega) (by omega) k2.1 ?_
    obtain ⟨v4, e4⟩ : ∃ z_, M ((xe 2 x)) 1 = z_ := ⟨_, rfl⟩
    have b4 : (-1) ≤ v4 ∧ v4 ≤ 400 := by rw [← e4]; exact (CI.r hC_M k2.2 (by decide) 1)
    refine jr_v rfl rfl (Or.inl rfl) rfl rfl (by decide) rfl ⟨rfl, Nat.le_of_ble_eq_true rfl, Nat.le_of_ble_eq_true rfl⟩ rfl (jc.deep (c_Headers_readAll_x hC_M (FR.rfl _ M) (show kd 3 = 18 from rfl) k2.2 e4 (p1 (by omega)) (fun M3 hC_M3 hf_M3 w3_0 w3_1 w3_2 => ?_)) (by decide))
    have ht_M3 : FR W_c_PacketWall_carried_x T M3 := FR.t ht_M hf_M3 (kw_sub rfl)
    refine jr.iload_n rfl rfl ?_
    refine jr.if_lt rfl rfl (by omega) (fun h25 => ?_) (fun h25 => ?_)
    · refine jr.bipush rfl (by decide) ?_
      obtain ⟨v5, e5⟩ : ∃ z_, M3 3 3 = z_ := ⟨_, rfl⟩
      have b5 : 0 ≤ v5 ∧ v5 ≤ 12 := by rw [← e5]; exact (CI.r hC_M3 (show kd 3 = 18 from rfl) (by decide) 3)
      exact jr.ireturn rfl rfl rfl (q _ _ hC_M3 ht_M3 (by omega) (Or.inr ⟨by rw [p0]; omega, by rw [p0, e4]; exact ⟨v5, (by have hq := HQ.e ((w3_1.resolve_left (fun h => by omega)).2).2.2.2; rw [e5] at hq; exact hq), Or.inl ⟨by omega, by omega⟩⟩⟩))
    · refine jr.iload_n rfl rfl ?_
      refine jr.if_lt rfl rfl (by omega) (fun h29 => ?_) (fun h29 => ?_)
      · refine jr.bipush rfl (by decide) ?_
        obtain ⟨v6, e6⟩ : ∃ z_, M3 3 3 = z_ := ⟨_, rfl⟩
        have b6 : 0 ≤ v6 ∧ v6 ≤ 12 := by rw [← e6]; exact (CI.r hC_M3 (show kd 3 = 18 from rfl) (by decide) 3)
        exact jr.ireturn rfl rfl rfl (q _ _ hC_M3 ht_M3 (by omega) (Or.inr ⟨by rw [p0]; omega, by rw [p0, e4]; exact ⟨v6, (by have hq := HQ.e ((w3_1.resolve_left (fun h => by omega)).2).2.2.2; rw [e6] at hq; exact hq), Or.inl ⟨by omega, by omega⟩⟩⟩))
      · refine jr.iload_n rfl rfl ?_
        refine jr.aload_n rfl rfl ?_
        refine jr.getf (i := 3) (v := .ref 3) rfl rfl (by decide) rfl (by decide) rfl rfl rfl rfl ?_
        obtain ⟨v7, e7⟩ : ∃ z_, M3 3 3 = z_ := ⟨_, rfl⟩
        have b7 : 0 ≤ v7 ∧ v7 ≤ 12 := by rw [← e7]; exact (CI.r hC_M3 (show kd 3 = 18 from rfl) (by decide) 3)
        refine jr.getf (i := 3) (x := v7) (v := .int (Int32.ofInt (v7))) rfl rfl (by decide) rfl (by decide) rfl rfl e7 rfl ?_
        refine jr.icmp_gt rfl rfl (by omega) (by omega) (fun h40 => ?_) (fun h40 => ?_)
        · refine jr.bipush rfl (by decide) ?_
          exact jr.ireturn rfl rfl rfl (q _ _ hC_M3 ht_M3 (by omega) (Or.inr ⟨by rw [p0]; omega, by rw [p0, e4]; exact ⟨v7, (by have hq := HQ.e ((w3_1.resolve_left (fun h => by omega)).2).2.2.2; rw [e7] at hq; exact hq), Or.inl ⟨by omega, by omega⟩⟩⟩))
        · refine jr.iload_n rfl rfl ?_
          refine jr.aload_n rfl rfl ?_
          refine jr.getf (i := 3) (v := .ref 3) rfl rfl (by decide) rfl (by decide) rfl rfl rfl rfl ?_
          refine jr.getf (i := 3) (x := v7) (v := .int (Int32.ofInt (v7))) rfl rfl (by decide) rfl (by decide) rfl rfl e7 rfl ?_
          refine jr.iload_n rfl rfl ?_
          refine jr.isub rfl ?_
          refine jr.icmp_le rfl rfl (by omega) (by omega) (fun h53 => ?_) (fun h53 => ?_)
          · refine jr.iconst rfl ?_
            refine jr.istore rfl (by decide) rfl ?_
            refine jr.pick [2, 3, 4, 0, 1] rfl rfl ?_
            exact c_PacketWall_carried_x_L62  q 12 M3 0 hC_M3 ht_M3 (by omega) (by omega) (by omega) (by omega) e7 (by rw [p0, e4]; exact ((w3_1.resolve_left (fun h => by omega)).2)) (by rw [show z - 0 = z from by omega, show y + 0 = y from by omega]; omega) (by omega) (by rw [p0]; omega) (by omega)
          · refine jr.bipush rfl (by decide) ?_
            exact jr.ireturn rfl rfl rfl (q _ _ hC_M3 ht_M3 (by omega) (Or.inr ⟨by rw [p0]; omega, by rw [p0, e4]; exact ⟨v7, (by have hq := HQ.e ((w3_1.resolve_left (fun h => by omega)).2).2.2.2; rw [e7] at hq; exact hq), Or.inl ⟨by omega, by omega⟩⟩⟩))
  · refine jr.bipush rfl (by decide) ?_
    exact jr.ireturn rfl rfl rfl (q _ _ hC_M ht_M (by omega) (Or.inl ⟨by rw [p0]; omega, by omega⟩))
theorem HQ.o {T M : jm} {t c : Nat} {f : Int → Int} {N : Int} (h : HQ T t f N) (hk : kd t = 18) (hc : kd c = 34) (o : OR1 T M c) : HQ M t f N := by
  have n0 : t ≠ c := kd_ne (by rw [hk, hc]; decide)
  have n1 : t + 1 ≠ c := kd_ne (by rw [(kf_18_0 hk).2, hc]; decide)
  have n2 : t + 2 ≠ c := kd_ne (by rw [(kf_18_1 hk).2, hc]; decide)
  have n3 : t + 3 ≠ c := kd_ne (by rw [(kf_18_2 hk).2, hc]; decide)
  unfold HQ HR at h ⊢
  rw [o t 3 n0, o t 4 n0, o t 5 n0, o t 6 n0]
  refine ⟨h.1, fun i h0 h1 => ?_, h.2.2⟩
  rw [o (t + 1) i n1, o (t + 2) i n2, o (t + 3) i n3]
  exact h.2.1 i h0 h1
theorem HS2.o {T M : jm} {t : Nat} {f g g2 : Int → Int} {N S : Int} (h : HS2 T t f g N) (hk : kd t = 18) (hS : T t 7 = S) (k1 : kd S.toNat = 33) (o : OR1 T M (S.toNat + 1)) (hb : BY8 M (S.toNat + 1) g2) : HS2 M t f g2 N := by
  have hc := (kf_33_0 k1).2
  have n0 : t ≠ S.toNat + 1 := kd_ne (by rw [hk, hc]; decide)
  have e7 : M t 7 = S := by rw [o t 7 n0]; exact hS
  refine ⟨by rw [e7]; exact hb, ?_, h.2.2.1, h.2.2.2.1.o hk hc o, h.2.2.2.2⟩
  rw [e7, o S.toNat 1 (by omega), ← hS]
  exact h.2.1
/-- repair goes on: headers below i + 1 are left, o were changed -/
noncomputable def RPI (M : jm) (t : Nat) (f : Int → Int) (N C i o : Int) : Prop := ∃ g : Int → Int, HS2 M t f g N ∧ rpF f N C (i + 1).toNat g = rpF f N C C.toNat f ∧ o + rpN f N C (i + 1).toNat g = rpN f N C C.toNat f
theorem RPI.s {M M2 : jm} {t : Nat} {f g : Int → Int} {N C i o S r : Int} (h1 : HS2 M t f g N) (h2 : rpF f N C (i + 1).toNat g = rpF f N C C.toNat f) (h3 : o + rpN f N C (i + 1).toNat g = rpN f N C C.toNat f) (hi : 0 ≤ i) (hk : kd t = 18) (hS : M t 7 = S) (k1 : kd S.toNat = 33) (w : r = mdR f N C i g ∧ BY8 M2 (S.toNat + 1) (mdF f N C i g) ∧ OR1 M M2 (S.toNat + 1)) {i2 o2 : Int} (ei : i2 = i - 1) (eo : o2 = o + r) : RPI M2 t f N C i2 o2 := by
  subst ei
  refine ⟨mdF f N C i g, h1.o hk hS k1 w.2.2 w.2.1, ?_, ?_⟩
  · rw [show i - 1 + 1 = i by omega, ← (rp_s hi).1]; exact h2
  · rw [show i - 1 + 1 = i by omega, ← h3, (rp_s hi).2, eo, w.1]; omega
theorem RPI.e {M : jm} {t : Nat} {f : Int → Int} {N C i o S : Int} (h : RPI M t f N C i o) (hi : i < 0) (hS : M t 7 = S) : o = rpN f N C C.toNat f ∧ BY8 M (S.toNat + 1) (rpF f N C C.toNat f) := by
  obtain ⟨g, h1, h2, h3⟩ := h
  rw [(rp_0 hi).1] at h2
  rw [(rp_0 hi).2] at h3
  refine ⟨by omega, ?_⟩
  rw [← h2, ← hS]
  exact h1.1
/-- of the packets' rows only c may have changed -/
noncomputable def OP (T M : jm) (c : Nat) : Prop := ∀ (b : Nat) (k : Int), b ≠ c → kd b = 34 → M b k = T b k
theorem OP.f {W : List (Nat × Nat)} {T M : jm} (c : Nat) (h : FR W T M) (h1 : ksep W [(34, 1000)] = true) : OP T M c := fun b k _ hb => h.s h1 hb 1000 (by decide) k (Or.inl rfl)
theorem OP.t {T M M2 : jm} {c : Nat} (h : OP T M c) (h1 : OR1 M M2 c) : OP T M2 c := fun b k hb hk => (h1 b k hb).trans (h b k hb hk)
noncomputable def W_c_PacketWall_repair_x : List (Nat × Nat) := [(18, 3), (18, 4), (18, 5), (18, 6), (18, 7), (19, 1000), (20, 1000), (21, 1000), (34, 1000)]
theorem c_PacketWall_repair_x_L36 {A : Nat → Option (Nat × (Nat → Int32))} {Q : Option Value → jm → Prop} {f : Int → Int} {T : jm} {C : Int} {S : Int} {x : Int} (q : ∀ (r : Int) (M' : jm), CI M' → FR W_c_PacketWall_repair_x T M' → (-2147483648) ≤ r ∧ r ≤ 2147483647 → (((x < 0 ∨ 23 < x ∨ T (xe 2 x) 1 = -1) ∧ r = -2 ∧ OP T M' 0) ∨ (((0 ≤ x ∧ x ≤ 23) ∧ T (xe 2 x) 1 ≠ -1) ∧ OP T M' ((xe 2 x) + 1) ∧ ∃ C : Int, HE f (T (xe 2 x) 1) C ∧ r = rpN f (T (xe 2 x) 1) C C.toNat f ∧ BY8 M' ((xe 2 x) + 1) (rpF f (T (xe 2 x) 1) C C.toNat f))) → Q (some (.int (Int32.ofInt r))) M') : ∀ (nM : Nat) (M : jm) (o : Int) (i : Int), CI M → FR W_c_PacketWall_repair_x T M → 0 ≤ x ∧ x ≤ 23 → 0 ≤ o ∧ o ≤ 12 → (-1) ≤ i ∧ i ≤ 11 → M 3 3 = C → M 3 7 = S → (RPI M 3 f (T (xe 2 x) 1) C i o) → (S = (((xe 2 x) : Nat) : Int)) → (HE f (T (xe 2 x) 1) C) → (OP T M ((xe 2 x) + 1)) → (T (xe 2 x) 1 ≠ -1) → (i < C ∧ o + i ≤ 11) → i + 1 ≤ nM → jr A 5 xm_13 36 [(1, .int (Int32.ofInt (x))), (2, .int (Int32.ofInt (o))), (3, .int (Int32.ofInt (i))), (0, .ref (0))] [] M Q := by
  intro nM
  induction nM using Nat.strongRecOn with
  | ind nM ih =>
    intro M o i hC_M ht_M h_x h_o h_i g_C g_S hy0 hy1 hy2 hy3 hy4 hy5 hm
    have b_C : 0 ≤ C ∧ C ≤ 12 := by rw [← g_C]; exact (CI.r hC_M (show kd 3 = 18 from rfl) (by decide) 3)
    have k_S : kd S.toNat = 33 := (congrArg (fun z : Int => kd z.toNat) g_S).symm.trans (CI.x hC_M (show kd 3 = 18 from rfl) 7 rfl (by decide))
    obtain ⟨g0, hg1, hg2, hg3⟩ := id hy0
    refine jr.iload_n rfl rfl ?_
    refine jr.if_lt rfl rfl (by omega) (fun h37 => ?_) (fun h37 => ?_)
    · refine jr.iload_n rfl rfl ?_
      exact jr.ireturn rfl rfl rfl (q _ _ hC_M ht_M (by omega) (Or.inr ⟨⟨by omega, hy4⟩, hy3, C, hy2, (by have hq := RPI.e hy0 (by omega) g_S; rw [show S.toNat = (xe 2 x) from by omega] at hq; exact hq)⟩))
    · refine jr.aload_n rfl rfl ?_
      refine jr.getf (i := 3) (v := .ref 3) rfl rfl (by decide) rfl (by decide) rfl rfl rfl rfl ?_
      refine jr.iload_n rfl rfl ?_
      have k1_S : kd (S).toNat = 33 := (congrArg (fun z : Int => kd z.toNat) g_S).symm.trans (CI.x hC_M (show kd 3 = 18 from rfl) 7 rfl (by decide))
      refine jr_v rfl rfl (Or.inl rfl) rfl rfl (by decide) rfl ⟨rfl, Nat.le_of_ble_eq_true rfl, Nat.le_of_ble_eq_true rfl⟩ rfl (jc.deep (c_Headers_mend_x hC_M (FR.rfl _ M) (show kd 3 = 18 from rfl) (by omega) g_C g_S rfl hg1 (fun r1 M1 hC_M1 hf_M1 z1 w1_0 => ?_)) (by decide))
      have ht_M1 : FR W_c_PacketWall_repair_x T M1 := FR.t ht_M hf_M1 (kw_sub rfl)
      refine jr.if_eq rfl rfl (by omega) (fun h48 => ?_) (fun h48 => ?_)
      · refine jr.iinc rfl rfl (by decide) rfl ?_
        refine jr.goto rfl rfl ?_
        have e2 : M1 3 3 = C := (hf_M1.g (show kd 3 = 18 from rfl) rfl).trans g_C
        have e3 : M1 3 7 = S := (hf_M1.g (show kd 3 = 18 from rfl) rfl).trans g_S
        refine jr.pick [1, 2, 0, 3] rfl rfl ?_
        exact ih (nM - 1) (by omega) M1 o (i + (-1)) hC_M1 ht_M1 (by omega) (by omega) (by omega) e2 e3 (RPI.s hg1 hg2 hg3 (by omega) (show kd 3 = 18 from rfl) g_S k_S w1_0 (by omega) (by omega)) hy1 hy2 (hy3.t (by have hq := w1_0.2.2; rw [show S.toNat = (xe 2 x) from by omega] at hq; exact hq)) hy4 (by omega) (by omega)
      · have sx48 : (1 : Int) ≤ r1 := by omega
        refine jr.iinc rfl rfl (by decide) rfl ?_
        refine jr.iinc rfl rfl (by decide) rfl ?_
        refine jr.goto rfl rfl ?_
        have e4 : M1 3 3 = C := (hf_M1.g (show kd 3 = 18 from rfl) rfl).trans g_C
        have e5 : M1 3 7 = S := (hf_M1.g (show kd 3 = 18 from rfl) rfl).trans g_S
        refine jr.pick [2, 1, 0, 3] rfl rfl ?_
        exact ih (nM - 1) (by omega) M1 (o + 1) (i + (-1)) hC_M1 ht_M1 (by omega) (by omega) (by omega) e4 e5 (RPI.s hg1 hg2 hg3 (by omega) (show kd 3 = 18 from rfl) g_S k_S w1_0 (by omega) (by omega)) hy1 hy2 (hy3.t (by have hq := w1_0.2.2; rw [show S.toNat = (xe 2 x) from by omega] at hq; exact hq)) hy4 (by omega) (by omega)
theorem c_PacketWall_repair_x {A : Nat → Option (Nat × (Nat → Int32))} {Q : Option Value → jm → Prop} {f : Int → Int} {T : jm} {M : jm} (hC_M : CI M) (ht_M : FR W_c_PacketWall_repair_x T M) {x : Int} (h_x : (-2147483648) ≤ x ∧ x ≤ 2147483647) (p0 : T = M) (p1 : ((0 ≤ x ∧ x ≤ 23) → BY8 M ((xe 2 x) + 1) f)) (q : ∀ (r : Int) (M' : jm), CI M' → FR W_c_PacketWall_repair_x T M' → (-2147483648) ≤ r ∧ r ≤ 2147483647 → (((x < 0 ∨ 23 < x ∨ T (xe 2 x) 1 = -1) ∧ r = -2 ∧ OP T M' 0) ∨ (((0 ≤ x ∧ x ≤ 23) ∧ T (xe 2 x) 1 ≠ -1) ∧ OP T M' ((xe 2 x) + 1) ∧ ∃ C : Int, HE f (T (xe 2 x) 1) C ∧ r = rpN f (T (xe 2 x) 1) C C.toNat f ∧ BY8 M' ((xe 2 x) + 1) (rpF f (T (xe 2 x) 1) C C.toNat f))) → Q (some (.int (Int32.ofInt r))) M') : jc A 6 13 [.ref (0), .int (Int32.ofInt (x))] M Q := by
  refine jc_of (m := xm_13) rfl (Nat.le_of_ble_eq_true rfl) rfl ?_
  refine jr.aload_n rfl rfl ?_
  refine jr.iload_n rfl rfl ?_
  refine jr_v rfl rfl (Or.inl rfl) rfl rfl (by decide) rfl ⟨rfl, Nat.le_of_ble_eq_true rfl, Nat.le_of_ble_eq_true rfl⟩ rfl (jc.deep (c_PacketWall_isPacket_x hC_M (by omega) (fun r1 z1 w1_0 w1_1 => ?_)) (by decide))
  refine jr.if_ne rfl rfl (by omega) (fun h5 => ?_) (fun h5 => ?_)
  · have sx5 : (1 : Int) ≤ r1 := by omega
    refine jr.aload_n rfl rfl ?_
    refine jr.getf (i := 3) (v := .ref 3) rfl rfl (by decide) rfl (by decide) rfl rfl rfl rfl ?_
    refine jr.aload_n rfl rfl ?_
    refine jr.getf (i := 2) (v := .ref 2) rfl rfl (by decide) rfl (by decide) rfl rfl rfl rfl ?_
    refine jr.iload_n rfl rfl ?_
    have k2 := kxe_42 (a := 2) rfl (i := x) (by omega) (by omega)
    refine jr.aald (c := (xe 2 x)) rfl (by decide) rfl (by decide) (by decide) rfl (by decide) (by omega) (by omega) k2.1 ?_
    obtain ⟨v4, e4⟩ : ∃ z_, M ((xe 2 x)) 1 = z_ := ⟨_, rfl⟩
    have b4 : (-1) ≤ v4 ∧ v4 ≤ 400 := by rw [← e4]; exact (CI.r hC_M k2.2 (by decide) 1)
    refine jr_v rfl rfl (Or.inl rfl) rfl rfl (by decide) rfl ⟨rfl, Nat.le_of_ble_eq_true rfl, Nat.le_of_ble_eq_true rfl⟩ rfl (jc.deep (c_Headers_readAll_x hC_M (FR.rfl _ M) (show kd 3 = 18 from rfl) k2.2 e4 (p1 (by omega)) (fun M3 hC_M3 hf_M3 w3_0 w3_1 w3_2 => ?_)) (by decide))
    have ht_M3 : FR W_c_PacketWall_repair_x T M3 := FR.t ht_M hf_M3 (kw_sub rfl)
    refine jr.iconst rfl ?_
    refine jr.istore_n rfl (by decide) rfl ?_
    refine jr.aload_n rfl rfl ?_
    refine jr.getf (i := 3) (v := .ref 3) rfl rfl (by decide) rfl (by decide) rfl rfl rfl rfl ?_
    obtain ⟨v5, e5⟩ : ∃ z_, M3 3 3 = z_ := ⟨_, rfl⟩
    have b5 : 0 ≤ v5 ∧ v5 ≤ 12 := by rw [← e5]; exact (CI.r hC_M3 (show kd 3 = 18 from rfl) (by decide) 3)
    refine jr.getf (i := 3) (x := v5) (v := .int (Int32.ofInt (v5))) rfl rfl (by decide) rfl (by decide) rfl rfl e5 rfl ?_
    refine jr.iconst rfl ?_
    refine jr.isub rfl ?_
    refine jr.istore_n rfl (by decide) rfl ?_
    obtain ⟨v6, e6⟩ : ∃ z_, M3 3 7 = z_ := ⟨_, rfl⟩
    have b6 : 0 ≤ v6 ∧ v6 ≤ 597 := by rw [← e6]; exact (CI.r hC_M3 (show kd 3 = 18 from rfl) (by decide) 7)
    refine jr.pick [3, 1, 0, 2] rfl rfl ?_
    exact c_PacketWall_repair_x_L36  q 12 M3 0 (v5 - 1) hC_M3 ht_M3 (by omega) (by omega) (by omega) e5 e6 (by rw [p0, e4]; exact ⟨f, ((w3_1.resolve_left (fun h => by omega)).2).two, by rw [show v5 - 1 + 1 = v5 from by omega], by rw [show v5 - 1 + 1 = v5 from by omega]; omega⟩) (by omega) (by rw [p0, e4]; exact (by have hq := HQ.e ((w3_1.resolve_left (fun h => by omega)).2).2.2.2; rw [e5] at hq; exact hq)) (by rw [p0]; exact OP.f _ hf_M3 rfl) (by rw [p0]; omega) (by omega) (by omega)
  · refine jr.bipush rfl (by decide) ?_
    exact jr.ireturn rfl rfl rfl (q _ _ hC_M ht_M (by omega) (Or.inl ⟨by rw [p0]; omega, by omega, by rw [p0]; exact fun _ _ _ _ => rfl⟩))
theorem hsF_r (f : Int → Int) (n c bk k a : Int) : 0 ≤ hsF f n c bk k a ∧ hsF f n c bk k a ≤ 6 := by
  unfold hsF
  (repeat' split) <;> omega
noncomputable def W_c_PacketWall_read_x : List (Nat × Nat) := [(18, 3), (18, 4), (18, 5), (18, 6), (18, 7), (19, 1000), (20, 1000), (21, 1000), (39, 1000)]
theorem c_PacketWall_read_x {A : Nat → Option (Nat × (Nat → Int32))} {Q : Option Value → jm → Prop} {f : Int → Int} {T : jm} {M : jm} (hC_M : CI M) (ht_M : FR W_c_PacketWall_read_x T M) {x : Int} (h_x : (-2147483648) ≤ x ∧ x ≤ 2147483647) (p0 : T = M) (p1 : ((0 ≤ x ∧ x ≤ 23) → BY8 M ((xe 2 x) + 1) f)) (q : ∀ (r : Int) (M' : jm), CI M' → FR W_c_PacketWall_read_x T M' → (-2147483648) ≤ r ∧ r ≤ 2147483647 → (((x < 0 ∨ 23 < x) ∧ r = -3 ∧ M' = T) ∨ (((0 ≤ x ∧ x ≤ 23) ∧ T (xe 2 x) 1 = -1) ∧ (M' 9 0 = 2 ∧ M' 9 1 = 0 ∧ M' 9 2 = -1 ∧ M' 9 3 = -1) ∧ r = -12) ∨ (((0 ≤ x ∧ x ≤ 23) ∧ T (xe 2 x) 1 ≠ -1) ∧ ∃ C : Int, HE f (T (xe 2 x) 1) C ∧ RDF f (T (xe 2 x) 1) C (M' 9 0) (M' 9 1) (M' 9 2) (M' 9 3) r)) → Q (some (.int (Int32.ofInt r))) M') : jc A 6 6 [.ref (0), .int (Int32.ofInt (x))] M Q := by
  refine jc_of (m := xm_6) rfl (Nat.le_of_ble_eq_true rfl) rfl ?_
  refine jr.iload_n rfl rfl ?_
  refine jr.if_lt rfl rfl (by omega) (fun h1 => ?_) (fun h1 => ?_)
  · refine jr.bipush rfl (by decide) ?_
    exact jr.ireturn rfl rfl rfl (q _ _ hC_M ht_M (by omega) (Or.inl ⟨by omega, by omega, by rw [p0]⟩))
  · refine jr.iload_n rfl rfl ?_
    refine jr.bipush rfl (by decide) ?_
    refine jr.icmp_lt rfl rfl (by omega) (by omega) (fun h7 => ?_) (fun h7 => ?_)
    · refine jr.aload_n rfl rfl ?_
      refine jr.getf (i := 3) (v := .ref 3) rfl rfl (by decide) rfl (by decide) rfl rfl rfl rfl ?_
      refine jr.aload_n rfl rfl ?_
      refine jr.getf (i := 2) (v := .ref 2) rfl rfl (by decide) rfl (by decide) rfl rfl rfl rfl ?_
      refine jr.iload_n rfl rfl ?_
      have k1 := kxe_42 (a := 2) rfl (i := x) (by omega) (by omega)
      refine jr.aald (c := (xe 2 x)) rfl (by decide) rfl (by decide) (by decide) rfl (by decide) (by omega) (by omega) k1.1 ?_
      obtain ⟨v3, e3⟩ : ∃ z_, M ((xe 2 x)) 1 = z_ := ⟨_, rfl⟩
      have b3 : (-1) ≤ v3 ∧ v3 ≤ 400 := by rw [← e3]; exact (CI.r hC_M k1.2 (by decide) 1)
      refine jr_v rfl rfl (Or.inl rfl) rfl rfl (by decide) rfl ⟨rfl, Nat.le_of_ble_eq_true rfl, Nat.le_of_ble_eq_true rfl⟩ rfl (jc.deep (c_Headers_readAll_x hC_M (FR.rfl _ M) (show kd 3 = 18 from rfl) k1.2 e3 (p1 (by omega)) (fun M2 hC_M2 hf_M2 w2_0 w2_1 w2_2 => ?_)) (by decide))
      have ht_M2 : FR W_c_PacketWall_read_x T M2 := FR.t ht_M hf_M2 (kw_sub rfl)
      obtain ⟨v4, e4⟩ : ∃ z_, M2 3 4 = z_ := ⟨_, rfl⟩
      have b4 : (-2147483648) ≤ v4 ∧ v4 ≤ 2147483647 := by rw [← e4]; exact (CI.r hC_M2 (show kd 3 = 18 from rfl) (by decide) 4)
      have hfb : 0 ≤ v4 ∧ v4 ≤ 6 := (by rw [← e4]; exact Or.elim w2_1 (fun h => by omega) (fun h => Or.elim h.2.2.2.2.2.2 (fun u => by omega) (fun u => by rw [u.2.2.1]; exact hsF_r _ _ _ _ _ _)))
      refine jr.aload_n rfl rfl ?_
      refine jr.getf (i := 4) (v := .ref 9) rfl rfl (by decide) rfl (by decide) rfl rfl rfl rfl ?_
      refine jr.iconst rfl ?_
      refine jr.aload_n rfl rfl ?_
      refine jr.getf (i := 3) (v := .ref 3) rfl rfl (by decide) rfl (by decide) rfl rfl rfl rfl ?_
      refine jr.getf (i := 4) (x := v4) (v := .int (Int32.ofInt (v4))) rfl rfl (by decide) rfl (by decide) rfl rfl e4 rfl ?_
      refine jr.iast (i := 0) (x := v4) rfl (by decide) rfl (by decide) (by omega) (by omega) ?_
      refine jr.aload_n rfl rfl ?_
      refine jr.getf (i := 4) (v := .ref 9) rfl rfl (by decide) rfl (by decide) rfl rfl rfl rfl ?_
      refine jr.iconst rfl ?_
      refine jr.aload_n rfl rfl ?_
      refine jr.getf (i := 3) (v := .ref 3) rfl rfl (by decide) rfl (by decide) rfl rfl rfl rfl ?_
      obtain ⟨v5, e5⟩ : ∃ z_, M2 3 3 = z_ := ⟨_, rfl⟩
      have b5 : 0 ≤ v5 ∧ v5 ≤ 12 := by rw [← e5]; exact (CI.r hC_M2 (show kd 3 = 18 from rfl) (by decide) 3)
      refine jr.getf (i := 3) (x := v5) (v := .int (Int32.ofInt (v5))) rfl rfl (by decide) rfl (by decide) rfl rfl ((ju_c _ _ (by decide)).trans e5) rfl ?_
      refine jr.iast (i := 1) (x := v5) rfl (by decide) rfl (by decide) (by omega) (by omega) ?_
      refine jr.aload_n rfl rfl ?_
      refine jr.getf (i := 4) (v := .ref 9) rfl rfl (by decide) rfl (by decide) rfl rfl rfl rfl ?_
      refine jr.iconst rfl ?_
      refine jr.aload_n rfl rfl ?_
      refine jr.getf (i := 3) (v := .ref 3) rfl rfl (by decide) rfl (by decide) rfl rfl rfl rfl ?_
      obtain ⟨v6, e6⟩ : ∃ z_, M2 3 5 = z_ := ⟨_, rfl⟩
      have b6 : (-2147483648) ≤ v6 ∧ v6 ≤ 2147483647 := by rw [← e6]; exact (CI.r hC_M2 (show kd 3 = 18 from rfl) (by decide) 5)
      refine jr.getf (i := 5) (x := v6) (v := .int (Int32.ofInt (v6))) rfl rfl (by decide) rfl (by decide) rfl rfl ((ju_c _ _ (by decide)).trans ((ju_c _ _ (by decide)).trans e6)) rfl ?_
      refine jr.iast (i := 2) (x := v6) rfl (by decide) rfl (by decide) (by omega) (by omega) ?_
      refine jr.aload_n rfl rfl ?_
      refine jr.getf (i := 4) (v := .ref 9) rfl rfl (by decide) rfl (by decide) rfl rfl rfl rfl ?_
      refine jr.iconst rfl ?_
      refine jr.aload_n rfl rfl ?_
      refine jr.getf (i := 3) (v := .ref 3) rfl rfl (by decide) rfl (by decide) rfl rfl rfl rfl ?_
      obtain ⟨v7, e7⟩ : ∃ z_, M2 3 6 = z_ := ⟨_, rfl⟩
      have b7 : (-2147483648) ≤ v7 ∧ v7 ≤ 2147483647 := by rw [← e7]; exact (CI.r hC_M2 (show kd 3 = 18 from rfl) (by decide) 6)
      refine jr.getf (i := 6) (x := v7) (v := .int (Int32.ofInt (v7))) rfl rfl (by decide) rfl (by decide) rfl rfl ((ju_c _ _ (by decide)).trans ((ju_c _ _ (by decide)).trans ((ju_c _ _ (by decide)).trans e7))) rfl ?_
      refine jr.iast (i := 3) (x := v7) rfl (by decide) rfl (by decide) (by omega) (by omega) ?_
      refine jr.aload_n rfl rfl ?_
      refine jr.getf (i := 3) (v := .ref 3) rfl rfl (by decide) rfl (by decide) rfl rfl rfl rfl ?_
      refine jr.getf (i := 4) (x := v4) (v := .int (Int32.ofInt (v4))) rfl rfl (by decide) rfl (by decide) rfl rfl ((ju_c _ _ (by decide)).trans ((ju_c _ _ (by decide)).trans ((ju_c _ _ (by decide)).trans ((ju_c _ _ (by decide)).trans e4)))) rfl ?_
      refine jr.if_ne rfl rfl (by omega) (fun h85 => ?_) (fun h85 => ?_)
      · have sx85 : (1 : Int) ≤ v4 := by omega
        refine jr.bipush rfl (by decide) ?_
        refine jr.aload_n rfl rfl ?_
        refine jr.getf (i := 3) (v := .ref 3) rfl rfl (by decide) rfl (by decide) rfl rfl rfl rfl ?_
        refine jr.getf (i := 4) (x := v4) (v := .int (Int32.ofInt (v4))) rfl rfl (by decide) rfl (by decide) rfl rfl ((ju_c _ _ (by decide)).trans ((ju_c _ _ (by decide)).trans ((ju_c _ _ (by decide)).trans ((ju_c _ _ (by decide)).trans e4)))) rfl ?_
        refine jr.isub rfl ?_
        exact jr.ireturn rfl rfl rfl (q _ _ (CI.u (CI.u (CI.u (CI.u hC_M2 (i := 0) (show kd 9 = 39 from rfl) (show (-2147483648 : Int) ≤ _ ∧ _ ≤ (2147483647 : Int) from by omega) rfl) (i := 1) (show kd 9 = 39 from rfl) (show (-2147483648 : Int) ≤ _ ∧ _ ≤ (2147483647 : Int) from by omega) rfl) (i := 2) (show kd 9 = 39 from rfl) (show (-2147483648 : Int) ≤ _ ∧ _ ≤ (2147483647 : Int) from by omega) rfl) (i := 3) (show kd 9 = 39 from rfl) (show (-2147483648 : Int) ≤ _ ∧ _ ≤ (2147483647 : Int) from by omega) rfl) (FR.o (FR.o (FR.o (FR.o ht_M2 (show kd 9 = 39 from rfl) rfl) (show kd 9 = 39 from rfl) rfl) (show kd 9 = 39 from rfl) rfl) (show kd 9 = 39 from rfl) rfl) (by omega) (by have q0 : (ju (ju (ju (ju M2 9 0 v4) 9 1 v5) 9 2 v6) 9 3 v7) 9 0 = v4 := ((ju_i _ _ (by decide)).trans ((ju_i _ _ (by decide)).trans ((ju_i _ _ (by decide)).trans (ju_same _ _ _ _)))); have q1 : (ju (ju (ju (ju M2 9 0 v4) 9 1 v5) 9 2 v6) 9 3 v7) 9 1 = v5 := ((ju_i _ _ (by decide)).trans ((ju_i _ _ (by decide)).trans (ju_same _ _ _ _))); have q2 : (ju (ju (ju (ju M2 9 0 v4) 9 1 v5) 9 2 v6) 9 3 v7) 9 2 = v6 := ((ju_i _ _ (by decide)).trans (ju_same _ _ _ _)); have q3 : (ju (ju (ju (ju M2 9 0 v4) 9 1 v5) 9 2 v6) 9 3 v7) 9 3 = v7 := (ju_same _ _ _ _); have r3 : M2 3 3 = v5 := e5; have r4 : M2 3 4 = v4 := e4; have r5 : M2 3 5 = v6 := e6; have r6 : M2 3 6 = v7 := e7; rw [p0, e3]; exact Or.elim w2_1 (fun h => Or.inr (Or.inl ⟨by omega, by omega, by omega⟩)) (fun h => Or.inr (Or.inr ⟨⟨by omega, h.1⟩, M2 3 3, HQ.e h.2.2.2.2, ⟨by omega, Or.elim h.2.2.2.2.2.2 (fun u => Or.inl ⟨u.1, by omega, by omega, by omega, by omega⟩) (fun u => Or.inr ⟨u.1, u.2.1, by omega, by omega, by omega, by omega⟩)⟩⟩))))
      · refine jr.aload_n rfl rfl ?_
        refine jr.getf (i := 3) (v := .ref 3) rfl rfl (by decide) rfl (by decide) rfl rfl rfl rfl ?_
        refine jr.getf (i := 3) (x := v5) (v := .int (Int32.ofInt (v5))) rfl rfl (by decide) rfl (by decide) rfl rfl ((ju_c _ _ (by decide)).trans ((ju_c _ _ (by decide)).trans ((ju_c _ _ (by decide)).trans ((ju_c _ _ (by decide)).trans e5)))) rfl ?_
        refine jr.goto rfl rfl ?_
        exact jr.ireturn rfl rfl rfl (q _ _ (CI.u (CI.u (CI.u (CI.u hC_M2 (i := 0) (show kd 9 = 39 from rfl) (show (-2147483648 : Int) ≤ _ ∧ _ ≤ (2147483647 : Int) from by omega) rfl) (i := 1) (show kd 9 = 39 from rfl) (show (-2147483648 : Int) ≤ _ ∧ _ ≤ (2147483647 : Int) from by omega) rfl) (i := 2) (show kd 9 = 39 from rfl) (show (-2147483648 : Int) ≤ _ ∧ _ ≤ (2147483647 : Int) from by omega) rfl) (i := 3) (show kd 9 = 39 from rfl) (show (-2147483648 : Int) ≤ _ ∧ _ ≤ (2147483647 : Int) from by omega) rfl) (FR.o (FR.o (FR.o (FR.o ht_M2 (show kd 9 = 39 from rfl) rfl) (show kd 9 = 39 from rfl) rfl) (show kd 9 = 39 from rfl) rfl) (show kd 9 = 39 from rfl) rfl) (by omega) (by have q0 : (ju (ju (ju (ju M2 9 0 v4) 9 1 v5) 9 2 v6) 9 3 v7) 9 0 = v4 := ((ju_i _ _ (by decide)).trans ((ju_i _ _ (by decide)).trans ((ju_i _ _ (by decide)).trans (ju_same _ _ _ _)))); have q1 : (ju (ju (ju (ju M2 9 0 v4) 9 1 v5) 9 2 v6) 9 3 v7) 9 1 = v5 := ((ju_i _ _ (by decide)).trans ((ju_i _ _ (by decide)).trans (ju_same _ _ _ _))); have q2 : (ju (ju (ju (ju M2 9 0 v4) 9 1 v5) 9 2 v6) 9 3 v7) 9 2 = v6 := ((ju_i _ _ (by decide)).trans (ju_same _ _ _ _)); have q3 : (ju (ju (ju (ju M2 9 0 v4) 9 1 v5) 9 2 v6) 9 3 v7) 9 3 = v7 := (ju_same _ _ _ _); have r3 : M2 3 3 = v5 := e5; have r4 : M2 3 4 = v4 := e4; have r5 : M2 3 5 = v6 := e6; have r6 : M2 3 6 = v7 := e7; rw [p0, e3]; exact Or.elim w2_1 (fun h => Or.inr (Or.inl ⟨by omega, by omega, by omega⟩)) (fun h => Or.inr (Or.inr ⟨⟨by omega, h.1⟩, M2 3 3, HQ.e h.2.2.2.2, ⟨by omega, Or.elim h.2.2.2.2.2.2 (fun u => Or.inl ⟨u.1, by omega, by omega, by omega, by omega⟩) (fun u => Or.inr ⟨u.1, u.2.1, by omega, by omega, by omega, by omega⟩)⟩⟩))))
    · refine jr.bipush rfl (by decide) ?_
      exact jr.ireturn rfl rfl rfl (q _ _ hC_M ht_M (by omega) (Or.inl ⟨by omega, by omega, by rw [p0]⟩))
end
section
/-! ===== the reference: fields, and the calls on headers ===== -/
theorem nbs_2t (f : Int → Int) (y : Int) : nbs f y 2 = tw f y := nbs_2 f y
theorem nbs_4t (f : Int → Int) (y : Int) : nbs f y 4 = tw f y * 65536 + tw f (y + 2) := by
  rw [nbs_4]
  unfold tw
  rw [show y + 2 + 1 = y + 3 by omega]
  omega
theorem jl_sho16 {a b : Int} (ha : 0 ≤ a ∧ a ≤ 65535) (hb : 0 ≤ b ∧ b ≤ 65535) : jl_or (jl_shl a 16) b = a * 65536 + b := by
  rw [jl_shl_16, jl_or_16 (by omega), jl_w_id (by omega)]
theorem jl_sho32 {a b : Int} (hb : 0 ≤ b ∧ b ≤ 4294967295) : jl_or (jl_shl a 32) b = jl_w (a * 4294967296 + b) := by
  rw [jl_shl_32, jl_or_32 (by omega)]
theorem r_four_x {A : Nat → Option (Nat × (Nat → Int32))} {Q : Option Value → jm → Prop} {M : jm} (hI_M : RI M) (hH_M : RH M) (hS_M : RF M) {x : Int} (h_x : 0 ≤ x ∧ x ≤ 23) {i : Int} (h_i : 0 ≤ i ∧ i ≤ 396) (q : ∀ (r : Int), 0 ≤ r ∧ r ≤ 4294967295 → r = nbs (rf M x) i 4 → Q (some (.long (Int64.ofInt r))) M) : jc A 3 255 [.ref (598), .int (Int32.ofInt (x)), .int (Int32.ofInt (i))] M Q := by
  refine jc_of (m := xm_255) rfl (Nat.le_of_ble_eq_true rfl) rfl ?_
  refine jr.aload_n rfl rfl ?_
  refine jr.iload_n rfl rfl ?_
  refine jr.iload_n rfl rfl ?_
  refine jr_v rfl rfl (Or.inl rfl) rfl rfl (by decide) rfl ⟨rfl, Nat.le_of_ble_eq_true rfl, Nat.le_of_ble_eq_true rfl⟩ rfl (jc.deep (r_two_x hI_M hH_M hS_M  (by omega) (by omega)  (fun r1 z1 w1_0 => ?_)) (by decide))
  refine jr.i2l rfl (by omega) ?_
  refine jr.bipush rfl (by decide) ?_
  refine jr.lshl rfl ?_
  refine jr.aload_n rfl rfl ?_
  refine jr.iload_n rfl rfl ?_
  refine jr.iload_n rfl rfl ?_
  refine jr.iconst rfl ?_
  refine jr.iadd rfl ?_
  refine jr_v rfl rfl (Or.inl rfl) rfl rfl (by decide) rfl ⟨rfl, Nat.le_of_ble_eq_true rfl, Nat.le_of_ble_eq_true rfl⟩ rfl (jc.deep (r_two_x hI_M hH_M hS_M  (by omega) (by omega)  (fun r2 z2 w2_0 => ?_)) (by decide))
  refine jr.i2l rfl (by omega) ?_
  refine jr.lor rfl ?_
  have b3 : jl_or (jl_shl r1 16) r2 = r1 * 65536 + r2 := jl_sho16 (by omega) (by omega)
  generalize jl_or (jl_shl r1 16) r2 = v3 at b3 ⊢
  exact jr.lreturn rfl rfl (q _ (by omega) (by rw [nbs_4t]; omega))
theorem r_eight_x {A : Nat → Option (Nat × (Nat → Int32))} {Q : Option Value → jm → Prop} {M : jm} (hI_M : RI M) (hH_M : RH M) (hS_M : RF M) {x : Int} (h_x : 0 ≤ x ∧ x ≤ 23) {i : Int} (h_i : 0 ≤ i ∧ i ≤ 392) (q : ∀ (r : Int), (-9223372036854775808) ≤ r ∧ r ≤ 9223372036854775807 → r = jl_w (nbs (rf M x) i 8) → Q (some (.long (Int64.ofInt r))) M) : jc A 4 256 [.ref (598), .int (Int32.ofInt (x)), .int (Int32.ofInt (i))] M Q := by
  refine jc_of (m := xm_256) rfl (Nat.le_of_ble_eq_true rfl) rfl ?_
  refine jr.aload_n rfl rfl ?_
  refine jr.iload_n rfl rfl ?_
  refine jr.iload_n rfl rfl ?_
  refine jr_v rfl rfl (Or.inl rfl) rfl rfl (by decide) rfl ⟨rfl, Nat.le_of_ble_eq_true rfl, Nat.le_of_ble_eq_true rfl⟩ rfl (jc.deep (r_four_x hI_M hH_M hS_M  (by omega) (by omega)  (fun r1 z1 w1_0 => ?_)) (by decide))
  refine jr.bipush rfl (by decide) ?_
  refine jr.lshl rfl ?_
  refine jr.aload_n rfl rfl ?_
  refine jr.iload_n rfl rfl ?_
  refine jr.iload_n rfl rfl ?_
  refine jr.iconst rfl ?_
  refine jr.iadd rfl ?_
  refine jr_v rfl rfl (Or.inl rfl) rfl rfl (by decide) rfl ⟨rfl, Nat.le_of_ble_eq_true rfl, Nat.le_of_ble_eq_true rfl⟩ rfl (jc.deep (r_four_x hI_M hH_M hS_M  (by omega) (by omega)  (fun r2 z2 w2_0 => ?_)) (by decide))
  refine jr.lor rfl ?_
  have b3 : jl_or (jl_shl r1 32) r2 = jl_w (r1 * 4294967296 + r2) ∧ -9223372036854775808 ≤ jl_or (jl_shl r1 32) r2 ∧ jl_or (jl_shl r1 32) r2 ≤ 9223372036854775807 := ⟨jl_sho32 (by omega), jbl_any _⟩
  generalize jl_or (jl_shl r1 32) r2 = v3 at b3 ⊢
  exact jr.lreturn rfl rfl (q _ (by omega) (by rw [nbs_8, ← w1_0, ← w2_0]; omega))
theorem r_fields_x {A : Nat → Option (Nat × (Nat → Int32))} {Q : Option Value → jm → Prop} {M : jm} (hI_M : RI M) (hH_M : RH M) (hS_M : RF M) {k : Int} (h_k : 0 ≤ k ∧ k ≤ 11) (q : ∀ (r : Int), 1 ≤ r ∧ r ≤ 11 → r = xcv_2 k → Q (some (.int (Int32.ofInt r))) M) : jc A 1 271 [.int (Int32.ofInt (k))] M Q := by
  rcases (show k = 0 ∨ k = 1 ∨ k = 2 ∨ k = 3 ∨ k = 4 ∨ k = 5 ∨ k = 6 ∨ k = 7 ∨ k = 8 ∨ k = 9 ∨ k = 10 ∨ k = 11 by omega) with rfl | rfl | rfl | rfl | rfl | rfl | rfl | rfl | rfl | rfl | rfl | rfl
  · refine jc_of (m := xm_271) rfl (Nat.le_of_ble_eq_true rfl) rfl ?_
    refine jr.iload_n rfl rfl ?_
    refine jr.tsw_k 0 rfl rfl rfl ?_
    refine jr.iconst rfl ?_
    exact jr.ireturn rfl rfl rfl (q _ (by omega) (by decide +kernel))
  · refine jc_of (m := xm_271) rfl (Nat.le_of_ble_eq_true rfl) rfl ?_
    refine jr.iload_n rfl rfl ?_
    refine jr.tsw_k 1 rfl rfl rfl ?_
    refine jr.iconst rfl ?_
    exact jr.ireturn rfl rfl rfl (q _ (by omega) (by decide +kernel))
  · refine jc_of (m := xm_271) rfl (Nat.le_of_ble_eq_true rfl) rfl ?_
    refine jr.iload_n rfl rfl ?_
    refine jr.tsw_k 2 rfl rfl rfl ?_
    refine jr.bipush rfl (by decide) ?_
    exact jr.ireturn rfl rfl rfl (q _ (by omega) (by decide +kernel))
  · refine jc_of (m := xm_271) rfl (Nat.le_of_ble_eq_true rfl) rfl ?_
    refine jr.iload_n rfl rfl ?_
    refine jr.tsw_k 3 rfl rfl rfl ?_
    refine jr.bipush rfl (by decide) ?_
    exact jr.ireturn rfl rfl rfl (q _ (by omega) (by decide +kernel))
  · refine jc_of (m := xm_271) rfl (Nat.le_of_ble_eq_true rfl) rfl ?_
    refine jr.iload_n rfl rfl ?_
    refine jr.tsw_k 4 rfl rfl rfl ?_
    refine jr.iconst rfl ?_
    exact jr.ireturn rfl rfl rfl (q _ (by omega) (by decide +kernel))
  · refine jc_of (m := xm_271) rfl (Nat.le_of_ble_eq_true rfl) rfl ?_
    refine jr.iload_n rfl rfl ?_
    refine jr.tsw_k 5 rfl rfl rfl ?_
    refine jr.iconst rfl ?_
    exact jr.ireturn rfl rfl rfl (q _ (by omega) (by decide +kernel))
  · refine jc_of (m := xm_271) rfl (Nat.le_of_ble_eq_true rfl) rfl ?_
    refine jr.iload_n rfl rfl ?_
    refine jr.tsw_k 6 rfl rfl rfl ?_
    refine jr.iconst rfl ?_
    exact jr.ireturn rfl rfl rfl (q _ (by omega) (by decide +kernel))
  · refine jc_of (m := xm_271) rfl (Nat.le_of_ble_eq_true rfl) rfl ?_
    refine jr.iload_n rfl rfl ?_
    refine jr.tsw_k 7 rfl rfl rfl ?_
    refine jr.iconst rfl ?_
    exact jr.ireturn rfl rfl rfl (q _ (by omega) (by decide +kernel))
  · refine jc_of (m := xm_271) rfl (Nat.le_of_ble_eq_true rfl) rfl ?_
    refine jr.iload_n rfl rfl ?_
    refine jr.tsw_k 8 rfl rfl rfl ?_
    refine jr.bipush rfl (by decide) ?_
    exact jr.ireturn rfl rfl rfl (q _ (by omega) (by decide +kernel))
  · refine jc_of (m := xm_271) rfl (Nat.le_of_ble_eq_true rfl) rfl ?_
    refine jr.iload_n rfl rfl ?_
    refine jr.tsw_k 9 rfl rfl rfl ?_
    refine jr.iconst rfl ?_
    exact jr.ireturn rfl rfl rfl (q _ (by omega) (by decide +kernel))
  · refine jc_of (m := xm_271) rfl (Nat.le_of_ble_eq_true rfl) rfl ?_
    refine jr.iload_n rfl rfl ?_
    refine jr.tsw_k 10 rfl rfl rfl ?_
    refine jr.iconst rfl ?_
    exact jr.ireturn rfl rfl rfl (q _ (by omega) (by decide +kernel))
  · refine jc_of (m := xm_271) rfl (Nat.le_of_ble_eq_true rfl) rfl ?_
    refine jr.iload_n rfl rfl ?_
    refine jr.tsw_k 11 rfl rfl rfl ?_
    refine jr.iconst rfl ?_
    exact jr.ireturn rfl rfl rfl (q _ (by omega) (by decide +kernel))
theorem r_ofFour_x {A : Nat → Option (Nat × (Nat → Int32))} {Q : Option Value → jm → Prop} {M : jm} (hI_M : RI M) (hH_M : RH M) (hS_M : RF M) {x : Int} (h_x : 0 ≤ x ∧ x ≤ 23) {a : Int} (h_a : 0 ≤ a ∧ a ≤ 380) {f : Int} (h_f : 0 ≤ f ∧ f ≤ 10) (q : ∀ (r : Int), (-9223372036854775808) ≤ r ∧ r ≤ 9223372036854775807 → (∀ z : Int, r = vof (rf M x) z 2 a f) → Q (some (.long (Int64.ofInt r))) M) : jc A 4 272 [.ref (598), .int (Int32.ofInt (x)), .int (Int32.ofInt (a)), .int (Int32.ofInt (f))] M Q := by
  rcases (show f = 0 ∨ f = 1 ∨ f = 2 ∨ f = 3 ∨ f = 4 ∨ f = 5 ∨ f = 6 ∨ f = 7 ∨ f = 8 ∨ f = 9 ∨ f = 10 by omega) with rfl | rfl | rfl | rfl | rfl | rfl | rfl | rfl | rfl | rfl | rfl
  · refine jc_of (m := xm_272) rfl (Nat.le_of_ble_eq_true rfl) rfl ?_
    refine jr.iload_n rfl rfl ?_
    refine jr.tsw_k 0 rfl rfl rfl ?_
    refine jr.aload_n rfl rfl ?_
    refine jr.iload_n rfl rfl ?_
    refine jr.iload_n rfl rfl ?_
    refine jr_v rfl rfl (Or.inl rfl) rfl rfl (by decide) rfl ⟨rfl, Nat.le_of_ble_eq_true rfl, Nat.le_of_ble_eq_true rfl⟩ rfl (jc.deep (r_one hI_M hH_M hS_M (Kp.rfl _) (by omega) (by omega)  (fun r1 z1 w1_0 => ?_)) (by decide))
    refine jr.bipush rfl (by decide) ?_
    refine jr.iand rfl ?_
    have b2 : j_and r1 15 = r1 % 16 := j_and_m 4 (by decide) _
    generalize j_and r1 15 = v2 at b2 ⊢
    refine jr.i2l rfl (by omega) ?_
    exact jr.lreturn rfl rfl (q _ (by omega) (fun z => by have hw := w1_0; (try simp only [Int.reduceMul, Int.add_zero] at hw); simp only [vof_2_0, nbs_1, nbs_2t, Int.add_zero, rf_a]; omega))
  · refine jc_of (m := xm_272) rfl (Nat.le_of_ble_eq_true rfl) rfl ?_
    refine jr.iload_n rfl rfl ?_
    refine jr.tsw_k 1 rfl rfl rfl ?_
    refine jr.aload_n rfl rfl ?_
    refine jr.iload_n rfl rfl ?_
    refine jr.iload_n rfl rfl ?_
    refine jr.iconst rfl ?_
    refine jr.iadd rfl ?_
    refine jr_v rfl rfl (Or.inl rfl) rfl rfl (by decide) rfl ⟨rfl, Nat.le_of_ble_eq_true rfl, Nat.le_of_ble_eq_true rfl⟩ rfl (jc.deep (r_one hI_M hH_M hS_M (Kp.rfl _) (by omega) (by omega)  (fun r1 z1 w1_0 => ?_)) (by decide))
    refine jr.i2l rfl (by omega) ?_
    exact jr.lreturn rfl rfl (q _ (by omega) (fun z => by have hw := w1_0; (try simp only [Int.reduceMul, Int.add_zero] at hw); simp only [vof_2_1, nbs_1, nbs_2t, Int.add_zero, rf_a]; omega))
  · refine jc_of (m := xm_272) rfl (Nat.le_of_ble_eq_true rfl) rfl ?_
    refine jr.iload_n rfl rfl ?_
    refine jr.tsw_k 2 rfl rfl rfl ?_
    refine jr.aload_n rfl rfl ?_
    refine jr.iload_n rfl rfl ?_
    refine jr.iload_n rfl rfl ?_
    refine jr.iconst rfl ?_
    refine jr.iadd rfl ?_
    refine jr_v rfl rfl (Or.inl rfl) rfl rfl (by decide) rfl ⟨rfl, Nat.le_of_ble_eq_true rfl, Nat.le_of_ble_eq_true rfl⟩ rfl (jc.deep (r_two_x hI_M hH_M hS_M  (by omega) (by omega)  (fun r1 z1 w1_0 => ?_)) (by decide))
    refine jr.i2l rfl (by omega) ?_
    exact jr.lreturn rfl rfl (q _ (by omega) (fun z => by have hw := w1_0; (try simp only [Int.reduceMul, Int.add_zero] at hw); simp only [vof_2_2, nbs_1, nbs_2t, Int.add_zero, rf_a]; omega))
  · refine jc_of (m := xm_272) rfl (Nat.le_of_ble_eq_true rfl) rfl ?_
    refine jr.iload_n rfl rfl ?_
    refine jr.tsw_k 3 rfl rfl rfl ?_
    refine jr.aload_n rfl rfl ?_
    refine jr.iload_n rfl rfl ?_
    refine jr.iload_n rfl rfl ?_
    refine jr.iconst rfl ?_
    refine jr.iadd rfl ?_
    refine jr_v rfl rfl (Or.inl rfl) rfl rfl (by decide) rfl ⟨rfl, Nat.le_of_ble_eq_true rfl, Nat.le_of_ble_eq_true rfl⟩ rfl (jc.deep (r_two_x hI_M hH_M hS_M  (by omega) (by omega)  (fun r1 z1 w1_0 => ?_)) (by decide))
    refine jr.i2l rfl (by omega) ?_
    exact jr.lreturn rfl rfl (q _ (by omega) (fun z => by have hw := w1_0; (try simp only [Int.reduceMul, Int.add_zero] at hw); simp only [vof_2_3, nbs_1, nbs_2t, Int.add_zero, rf_a]; omega))
  · refine jc_of (m := xm_272) rfl (Nat.le_of_ble_eq_true rfl) rfl ?_
    refine jr.iload_n rfl rfl ?_
    refine jr.tsw_k 4 rfl rfl rfl ?_
    refine jr.aload_n rfl rfl ?_
    refine jr.iload_n rfl rfl ?_
    refine jr.iload_n rfl rfl ?_
    refine jr.bipush rfl (by decide) ?_
    refine jr.iadd rfl ?_
    refine jr_v rfl rfl (Or.inl rfl) rfl rfl (by decide) rfl ⟨rfl, Nat.le_of_ble_eq_true rfl, Nat.le_of_ble_eq_true rfl⟩ rfl (jc.deep (r_two_x hI_M hH_M hS_M  (by omega) (by omega)  (fun r1 z1 w1_0 => ?_)) (by decide))
    refine jr.bipush rfl (by decide) ?_
    refine jr.ishr rfl ?_
    have b2 : j_shr r1 13 = r1 / 8192 := j_shr_ex 13 (by decide) (by omega) (by omega)
    generalize j_shr r1 13 = v2 at b2 ⊢
    refine jr.i2l rfl (by omega) ?_
    exact jr.lreturn rfl rfl (q _ (by omega) (fun z => by have hw := w1_0; (try simp only [Int.reduceMul, Int.add_zero] at hw); simp only [vof_2_4, nbs_1, nbs_2t, Int.add_zero, rf_a]; omega))
  · refine jc_of (m := xm_272) rfl (Nat.le_of_ble_eq_true rfl) rfl ?_
    refine jr.iload_n rfl rfl ?_
    refine jr.tsw_k 5 rfl rfl rfl ?_
    refine jr.aload_n rfl rfl ?_
    refine jr.iload_n rfl rfl ?_
    refine jr.iload_n rfl rfl ?_
    refine jr.bipush rfl (by decide) ?_
    refine jr.iadd rfl ?_
    refine jr_v rfl rfl (Or.inl rfl) rfl rfl (by decide) rfl ⟨rfl, Nat.le_of_ble_eq_true rfl, Nat.le_of_ble_eq_true rfl⟩ rfl (jc.deep (r_two_x hI_M hH_M hS_M  (by omega) (by omega)  (fun r1 z1 w1_0 => ?_)) (by decide))
    refine jr.sipush rfl (by decide) ?_
    refine jr.iand rfl ?_
    have b2 : j_and r1 8191 = r1 % 8192 := j_and_m 13 (by decide) _
    generalize j_and r1 8191 = v2 at b2 ⊢
    refine jr.i2l rfl (by omega) ?_
    exact jr.lreturn rfl rfl (q _ (by omega) (fun z => by have hw := w1_0; (try simp only [Int.reduceMul, Int.add_zero] at hw); simp only [vof_2_5, nbs_1, nbs_2t, Int.add_zero, rf_a]; omega))
  · refine jc_of (m := xm_272) rfl (Nat.le_of_ble_eq_true rfl) rfl ?_
    refine jr.iload_n rfl rfl ?_
    refine jr.tsw_k 6 rfl rfl rfl ?_
    refine jr.aload_n rfl rfl ?_
    refine jr.iload_n rfl rfl ?_
    refine jr.iload_n rfl rfl ?_
    refine jr.bipush rfl (by decide) ?_
    refine jr.iadd rfl ?_
    refine jr_v rfl rfl (Or.inl rfl) rfl rfl (by decide) rfl ⟨rfl, Nat.le_of_ble_eq_true rfl, Nat.le_of_ble_eq_true rfl⟩ rfl (jc.deep (r_one hI_M hH_M hS_M (Kp.rfl _) (by omega) (by omega)  (fun r1 z1 w1_0 => ?_)) (by decide))
    refine jr.i2l rfl (by omega) ?_
    exact jr.lreturn rfl rfl (q _ (by omega) (fun z => by have hw := w1_0; (try simp only [Int.reduceMul, Int.add_zero] at hw); simp only [vof_2_6, nbs_1, nbs_2t, Int.add_zero, rf_a]; omega))
  · refine jc_of (m := xm_272) rfl (Nat.le_of_ble_eq_true rfl) rfl ?_
    refine jr.iload_n rfl rfl ?_
    refine jr.tsw_k 7 rfl rfl rfl ?_
    refine jr.aload_n rfl rfl ?_
    refine jr.iload_n rfl rfl ?_
    refine jr.iload_n rfl rfl ?_
    refine jr.bipush rfl (by decide) ?_
    refine jr.iadd rfl ?_
    refine jr_v rfl rfl (Or.inl rfl) rfl rfl (by decide) rfl ⟨rfl, Nat.le_of_ble_eq_true rfl, Nat.le_of_ble_eq_true rfl⟩ rfl (jc.deep (r_one hI_M hH_M hS_M (Kp.rfl _) (by omega) (by omega)  (fun r1 z1 w1_0 => ?_)) (by decide))
    refine jr.i2l rfl (by omega) ?_
    exact jr.lreturn rfl rfl (q _ (by omega) (fun z => by have hw := w1_0; (try simp only [Int.reduceMul, Int.add_zero] at hw); simp only [vof_2_7, nbs_1, nbs_2t, Int.add_zero, rf_a]; omega))
  · refine jc_of (m := xm_272) rfl (Nat.le_of_ble_eq_true rfl) rfl ?_
    refine jr.iload_n rfl rfl ?_
    refine jr.tsw_k 8 rfl rfl rfl ?_
    refine jr.aload_n rfl rfl ?_
    refine jr.iload_n rfl rfl ?_
    refine jr.iload_n rfl rfl ?_
    refine jr.bipush rfl (by decide) ?_
    refine jr.iadd rfl ?_
    refine jr_v rfl rfl (Or.inl rfl) rfl rfl (by decide) rfl ⟨rfl, Nat.le_of_ble_eq_true rfl, Nat.le_of_ble_eq_true rfl⟩ rfl (jc.deep (r_two_x hI_M hH_M hS_M  (by omega) (by omega)  (fun r1 z1 w1_0 => ?_)) (by decide))
    refine jr.i2l rfl (by omega) ?_
    exact jr.lreturn rfl rfl (q _ (by omega) (fun z => by have hw := w1_0; (try simp only [Int.reduceMul, Int.add_zero] at hw); simp only [vof_2_8, nbs_1, nbs_2t, Int.add_zero, rf_a]; omega))
  · refine jc_of (m := xm_272) rfl (Nat.le_of_ble_eq_true rfl) rfl ?_
    refine jr.iload_n rfl rfl ?_
    refine jr.tsw_d rfl (by decide) (by decide) rfl ?_
    refine jr.aload_n rfl rfl ?_
    refine jr.iload_n rfl rfl ?_
    refine jr.iload_n rfl rfl ?_
    refine jr.bipush rfl (by decide) ?_
    refine jr.icmp_ne rfl rfl (by omega) (by omega) (fun h => absurd h (by decide)) (fun _ => ?_)
    refine jr.iload_n rfl rfl ?_
    refine jr.bipush rfl (by decide) ?_
    refine jr.iadd rfl ?_
    refine jr.goto rfl rfl ?_
    refine jr_v rfl rfl (Or.inl rfl) rfl rfl (by decide) rfl ⟨rfl, Nat.le_of_ble_eq_true rfl, Nat.le_of_ble_eq_true rfl⟩ rfl (jc.deep (r_four_x hI_M hH_M hS_M  (by omega) (by omega)  (fun r1 z1 w1_0 => ?_)) (by decide))
    exact jr.lreturn rfl rfl (q _ (by omega) (fun z => by have hw := w1_0; (try simp only [Int.reduceMul, Int.add_zero] at hw); simp only [vof_2_9, nbs_1, nbs_2t, Int.add_zero, rf_a]; omega))
  · refine jc_of (m := xm_272) rfl (Nat.le_of_ble_eq_true rfl) rfl ?_
    refine jr.iload_n rfl rfl ?_
    refine jr.tsw_d rfl (by decide) (by decide) rfl ?_
    refine jr.aload_n rfl rfl ?_
    refine jr.iload_n rfl rfl ?_
    refine jr.iload_n rfl rfl ?_
    refine jr.bipush rfl (by decide) ?_
    refine jr.icmp_ne rfl rfl (by omega) (by omega) (fun _ => ?_) (fun h => absurd (by decide) h)
    refine jr.iload_n rfl rfl ?_
    refine jr.bipush rfl (by decide) ?_
    refine jr.iadd rfl ?_
    refine jr_v rfl rfl (Or.inl rfl) rfl rfl (by decide) rfl ⟨rfl, Nat.le_of_ble_eq_true rfl, Nat.le_of_ble_eq_true rfl⟩ rfl (jc.deep (r_four_x hI_M hH_M hS_M  (by omega) (by omega)  (fun r1 z1 w1_0 => ?_)) (by decide))
    exact jr.lreturn rfl rfl (q _ (by omega) (fun z => by have hw := w1_0; (try simp only [Int.reduceMul, Int.add_zero] at hw); simp only [vof_2_10, nbs_1, nbs_2t, Int.add_zero, rf_a]; omega))
theorem r_ofSix_x {A : Nat → Option (Nat × (Nat → Int32))} {Q : Option Value → jm → Prop} {M : jm} (hI_M : RI M) (hH_M : RH M) (hS_M : RF M) {x : Int} (h_x : 0 ≤ x ∧ x ≤ 23) {a : Int} (h_a : 0 ≤ a ∧ a ≤ 376) {f : Int} (h_f : 0 ≤ f ∧ f ≤ 6) (q : ∀ (r : Int), (-9223372036854775808) ≤ r ∧ r ≤ 9223372036854775807 → (∀ z : Int, r = vof (rf M x) z 3 a f) → Q (some (.long (Int64.ofInt r))) M) : jc A 5 273 [.ref (598), .int (Int32.ofInt (x)), .int (Int32.ofInt (a)), .int (Int32.ofInt (f))] M Q := by
  rcases (show f = 0 ∨ f = 1 ∨ f = 2 ∨ f = 3 ∨ f = 4 ∨ f = 5 ∨ f = 6 by omega) with rfl | rfl | rfl | rfl | rfl | rfl | rfl
  · refine jc_of (m := xm_273) rfl (Nat.le_of_ble_eq_true rfl) rfl ?_
    refine jr.iload_n rfl rfl ?_
    refine jr.tsw_k 0 rfl rfl rfl ?_
    refine jr.aload_n rfl rfl ?_
    refine jr.iload_n rfl rfl ?_
    refine jr.iload_n rfl rfl ?_
    refine jr.iconst rfl ?_
    refine jr.iadd rfl ?_
    refine jr_v rfl rfl (Or.inl rfl) rfl rfl (by decide) rfl ⟨rfl, Nat.le_of_ble_eq_true rfl, Nat.le_of_ble_eq_true rfl⟩ rfl (jc.deep (r_one hI_M hH_M hS_M (Kp.rfl _) (by omega) (by omega)  (fun r1 z1 w1_0 => ?_)) (by decide))
    refine jr.i2l rfl (by omega) ?_
    exact jr.lreturn rfl rfl (q _ (by omega) (fun z => by have hw := w1_0; (try simp only [Int.reduceMul, Int.add_zero] at hw); simp only [vof_3_0, nbs_1, nbs_2t, Int.add_zero, rf_a]; omega))
  · refine jc_of (m := xm_273) rfl (Nat.le_of_ble_eq_true rfl) rfl ?_
    refine jr.iload_n rfl rfl ?_
    refine jr.tsw_k 1 rfl rfl rfl ?_
    refine jr.aload_n rfl rfl ?_
    refine jr.iload_n rfl rfl ?_
    refine jr.iload_n rfl rfl ?_
    refine jr.iconst rfl ?_
    refine jr.iadd rfl ?_
    refine jr_v rfl rfl (Or.inl rfl) rfl rfl (by decide) rfl ⟨rfl, Nat.le_of_ble_eq_true rfl, Nat.le_of_ble_eq_true rfl⟩ rfl (jc.deep (r_two_x hI_M hH_M hS_M  (by omega) (by omega)  (fun r1 z1 w1_0 => ?_)) (by decide))
    refine jr.i2l rfl (by omega) ?_
    exact jr.lreturn rfl rfl (q _ (by omega) (fun z => by have hw := w1_0; (try simp only [Int.reduceMul, Int.add_zero] at hw); simp only [vof_3_1, nbs_1, nbs_2t, Int.add_zero, rf_a]; omega))
  · refine jc_of (m := xm_273) rfl (Nat.le_of_ble_eq_true rfl) rfl ?_
    refine jr.iload_n rfl rfl ?_
    refine jr.tsw_k 2 rfl rfl rfl ?_
    refine jr.aload_n rfl rfl ?_
    refine jr.iload_n rfl rfl ?_
    refine jr.iload_n rfl rfl ?_
    refine jr.iconst rfl ?_
    refine jr.iadd rfl ?_
    refine jr_v rfl rfl (Or.inl rfl) rfl rfl (by decide) rfl ⟨rfl, Nat.le_of_ble_eq_true rfl, Nat.le_of_ble_eq_true rfl⟩ rfl (jc.deep (r_one hI_M hH_M hS_M (Kp.rfl _) (by omega) (by omega)  (fun r1 z1 w1_0 => ?_)) (by decide))
    refine jr.i2l rfl (by omega) ?_
    exact jr.lreturn rfl rfl (q _ (by omega) (fun z => by have hw := w1_0; (try simp only [Int.reduceMul, Int.add_zero] at hw); simp only [vof_3_2, nbs_1, nbs_2t, Int.add_zero, rf_a]; omega))
  · refine jc_of (m := xm_273) rfl (Nat.le_of_ble_eq_true rfl) rfl ?_
    refine jr.iload_n rfl rfl ?_
    refine jr.tsw_k 3 rfl rfl rfl ?_
    refine jr.aload_n rfl rfl ?_
    refine jr.iload_n rfl rfl ?_
    refine jr.iload_n rfl rfl ?_
    refine jr.iconst rfl ?_
    refine jr.iadd rfl ?_
    refine jr_v rfl rfl (Or.inl rfl) rfl rfl (by decide) rfl ⟨rfl, Nat.le_of_ble_eq_true rfl, Nat.le_of_ble_eq_true rfl⟩ rfl (jc.deep (r_one hI_M hH_M hS_M (Kp.rfl _) (by omega) (by omega)  (fun r1 z1 w1_0 => ?_)) (by decide))
    refine jr.i2l rfl (by omega) ?_
    exact jr.lreturn rfl rfl (q _ (by omega) (fun z => by have hw := w1_0; (try simp only [Int.reduceMul, Int.add_zero] at hw); simp only [vof_3_3, nbs_1, nbs_2t, Int.add_zero, rf_a]; omega))
  · refine jc_of (m := xm_273) rfl (Nat.le_of_ble_eq_true rfl) rfl ?_
    refine jr.iload_n rfl rfl ?_
    refine jr.tsw_k 4 rfl rfl rfl ?_
    refine jr.aload_n rfl rfl ?_
    refine jr.iload_n rfl rfl ?_
    refine jr.iload_n rfl rfl ?_
    refine jr.bipush rfl (by decide) ?_
    refine jr.iadd rfl ?_
    refine jr_v rfl rfl (Or.inl rfl) rfl rfl (by decide) rfl ⟨rfl, Nat.le_of_ble_eq_true rfl, Nat.le_of_ble_eq_true rfl⟩ rfl (jc.deep (r_two_x hI_M hH_M hS_M  (by omega) (by omega)  (fun r1 z1 w1_0 => ?_)) (by decide))
    refine jr.i2l rfl (by omega) ?_
    exact jr.lreturn rfl rfl (q _ (by omega) (fun z => by have hw := w1_0; (try simp only [Int.reduceMul, Int.add_zero] at hw); simp only [vof_3_4, nbs_1, nbs_2t, Int.add_zero, rf_a]; omega))
  · refine jc_of (m := xm_273) rfl (Nat.le_of_ble_eq_true rfl) rfl ?_
    refine jr.iload_n rfl rfl ?_
    refine jr.tsw_d rfl (by decide) (by decide) rfl ?_
    refine jr.aload_n rfl rfl ?_
    refine jr.iload_n rfl rfl ?_
    refine jr.iload_n rfl rfl ?_
    refine jr.iconst rfl ?_
    refine jr.icmp_ne rfl rfl (by omega) (by omega) (fun h => absurd h (by decide)) (fun _ => ?_)
    refine jr.iload_n rfl rfl ?_
    refine jr.bipush rfl (by decide) ?_
    refine jr.iadd rfl ?_
    refine jr.goto rfl rfl ?_
    refine jr_v rfl rfl (Or.inl rfl) rfl rfl (by decide) rfl ⟨rfl, Nat.le_of_ble_eq_true rfl, Nat.le_of_ble_eq_true rfl⟩ rfl (jc.deep (r_eight_x hI_M hH_M hS_M  (by omega) (by omega)  (fun r1 z1 w1_0 => ?_)) (by decide))
    exact jr.lreturn rfl rfl (q _ (by omega) (fun z => by have hw := w1_0; (try simp only [Int.reduceMul, Int.add_zero] at hw); simp only [vof_3_5, nbs_1, nbs_2t, Int.add_zero, rf_a]; omega))
  · refine jc_of (m := xm_273) rfl (Nat.le_of_ble_eq_true rfl) rfl ?_
    refine jr.iload_n rfl rfl ?_
    refine jr.tsw_d rfl (by decide) (by decide) rfl ?_
    refine jr.aload_n rfl rfl ?_
    refine jr.iload_n rfl rfl ?_
    refine jr.iload_n rfl rfl ?_
    refine jr.iconst rfl ?_
    refine jr.icmp_ne rfl rfl (by omega) (by omega) (fun _ => ?_) (fun h => absurd (by decide) h)
    refine jr.iload_n rfl rfl ?_
    refine jr.bipush rfl (by decide) ?_
    refine jr.iadd rfl ?_
    refine jr_v rfl rfl (Or.inl rfl) rfl rfl (by decide) rfl ⟨rfl, Nat.le_of_ble_eq_true rfl, Nat.le_of_ble_eq_true rfl⟩ rfl (jc.deep (r_eight_x hI_M hH_M hS_M  (by omega) (by omega)  (fun r1 z1 w1_0 => ?_)) (by decide))
    exact jr.lreturn rfl rfl (q _ (by omega) (fun z => by have hw := w1_0; (try simp only [Int.reduceMul, Int.add_zero] at hw); simp only [vof_3_6, nbs_1, nbs_2t, Int.add_zero, rf_a]; omega))
theorem r_ofStream_x {A : Nat → Option (Nat × (Nat → Int32))} {Q : Option Value → jm → Prop} {M : jm} (hI_M : RI M) (hH_M : RH M) (hS_M : RF M) {x : Int} (h_x : 0 ≤ x ∧ x ≤ 23) {a : Int} (h_a : 0 ≤ a ∧ a ≤ 380) {f : Int} (h_f : 0 ≤ f ∧ f ≤ 7) (q : ∀ (r : Int), (-9223372036854775808) ≤ r ∧ r ≤ 9223372036854775807 → (∀ z : Int, r = vof (rf M x) z 8 a f) → Q (some (.long (Int64.ofInt r))) M) : jc A 4 274 [.ref (598), .int (Int32.ofInt (x)), .int (Int32.ofInt (a)), .int (Int32.ofInt (f))] M Q := by
  rcases (show f = 0 ∨ f = 1 ∨ f = 2 ∨ f = 3 ∨ f = 4 ∨ f = 5 ∨ f = 6 ∨ f = 7 by omega) with rfl | rfl | rfl | rfl | rfl | rfl | rfl | rfl
  · refine jc_of (m := xm_274) rfl (Nat.le_of_ble_eq_true rfl) rfl ?_
    refine jr.iload_n rfl rfl ?_
    refine jr.tsw_k 0 rfl rfl rfl ?_
    refine jr.aload_n rfl rfl ?_
    refine jr.iload_n rfl rfl ?_
    refine jr.iload_n rfl rfl ?_
    refine jr.iconst rfl ?_
    refine jr.iload_n rfl rfl ?_
    refine jr.imul rfl ?_
    refine jr.iadd rfl ?_
    refine jr_v rfl rfl (Or.inl rfl) rfl rfl (by decide) rfl ⟨rfl, Nat.le_of_ble_eq_true rfl, Nat.le_of_ble_eq_true rfl⟩ rfl (jc.deep (r_two_x hI_M hH_M hS_M  (by omega) (by omega)  (fun r1 z1 w1_0 => ?_)) (by decide))
    refine jr.i2l rfl (by omega) ?_
    exact jr.lreturn rfl rfl (q _ (by omega) (fun z => by have hw := w1_0; (try simp only [Int.reduceMul, Int.add_zero] at hw); simp only [vof_8_0, nbs_1, nbs_2t, Int.add_zero, rf_a]; omega))
  · refine jc_of (m := xm_274) rfl (Nat.le_of_ble_eq_true rfl) rfl ?_
    refine jr.iload_n rfl rfl ?_
    refine jr.tsw_k 1 rfl rfl rfl ?_
    refine jr.aload_n rfl rfl ?_
    refine jr.iload_n rfl rfl ?_
    refine jr.iload_n rfl rfl ?_
    refine jr.iconst rfl ?_
    refine jr.iload_n rfl rfl ?_
    refine jr.imul rfl ?_
    refine jr.iadd rfl ?_
    refine jr_v rfl rfl (Or.inl rfl) rfl rfl (by decide) rfl ⟨rfl, Nat.le_of_ble_eq_true rfl, Nat.le_of_ble_eq_true rfl⟩ rfl (jc.deep (r_two_x hI_M hH_M hS_M  (by omega) (by omega)  (fun r1 z1 w1_0 => ?_)) (by decide))
    refine jr.i2l rfl (by omega) ?_
    exact jr.lreturn rfl rfl (q _ (by omega) (fun z => by have hw := w1_0; (try simp only [Int.reduceMul, Int.add_zero] at hw); simp only [vof_8_1, nbs_1, nbs_2t, Int.add_zero, rf_a]; omega))
  · refine jc_of (m := xm_274) rfl (Nat.le_of_ble_eq_true rfl) rfl ?_
    refine jr.iload_n rfl rfl ?_
    refine jr.tsw_k 2 rfl rfl rfl ?_
    refine jr.aload_n rfl rfl ?_
    refine jr.iload_n rfl rfl ?_
    refine jr.iload_n rfl rfl ?_
    refine jr.iconst rfl ?_
    refine jr.iload_n rfl rfl ?_
    refine jr.imul rfl ?_
    refine jr.iadd rfl ?_
    refine jr.iconst rfl ?_
    refine jr.isub rfl ?_
    refine jr_v rfl rfl (Or.inl rfl) rfl rfl (by decide) rfl ⟨rfl, Nat.le_of_ble_eq_true rfl, Nat.le_of_ble_eq_true rfl⟩ rfl (jc.deep (r_four_x hI_M hH_M hS_M  (by omega) (by omega)  (fun r1 z1 w1_0 => ?_)) (by decide))
    exact jr.lreturn rfl rfl (q _ (by omega) (fun z => by have hw := w1_0; rw [show a + 4 * 2 - 4 = a + 4 from by omega] at hw; (try simp only [Int.reduceMul, Int.add_zero] at hw); simp only [vof_8_2, nbs_1, nbs_2t, Int.add_zero, rf_a]; omega))
  · refine jc_of (m := xm_274) rfl (Nat.le_of_ble_eq_true rfl) rfl ?_
    refine jr.iload_n rfl rfl ?_
    refine jr.tsw_k 3 rfl rfl rfl ?_
    refine jr.aload_n rfl rfl ?_
    refine jr.iload_n rfl rfl ?_
    refine jr.iload_n rfl rfl ?_
    refine jr.iconst rfl ?_
    refine jr.iload_n rfl rfl ?_
    refine jr.imul rfl ?_
    refine jr.iadd rfl ?_
    refine jr.iconst rfl ?_
    refine jr.isub rfl ?_
    refine jr_v rfl rfl (Or.inl rfl) rfl rfl (by decide) rfl ⟨rfl, Nat.le_of_ble_eq_true rfl, Nat.le_of_ble_eq_true rfl⟩ rfl (jc.deep (r_four_x hI_M hH_M hS_M  (by omega) (by omega)  (fun r1 z1 w1_0 => ?_)) (by decide))
    exact jr.lreturn rfl rfl (q _ (by omega) (fun z => by have hw := w1_0; rw [show a + 4 * 3 - 4 = a + 8 from by omega] at hw; (try simp only [Int.reduceMul, Int.add_zero] at hw); simp only [vof_8_3, nbs_1, nbs_2t, Int.add_zero, rf_a]; omega))
  · refine jc_of (m := xm_274) rfl (Nat.le_of_ble_eq_true rfl) rfl ?_
    refine jr.iload_n rfl rfl ?_
    refine jr.tsw_k 4 rfl rfl rfl ?_
    refine jr.aload_n rfl rfl ?_
    refine jr.iload_n rfl rfl ?_
    refine jr.iload_n rfl rfl ?_
    refine jr.bipush rfl (by decide) ?_
    refine jr.iadd rfl ?_
    refine jr_v rfl rfl (Or.inl rfl) rfl rfl (by decide) rfl ⟨rfl, Nat.le_of_ble_eq_true rfl, Nat.le_of_ble_eq_true rfl⟩ rfl (jc.deep (r_one hI_M hH_M hS_M (Kp.rfl _) (by omega) (by omega)  (fun r1 z1 w1_0 => ?_)) (by decide))
    refine jr.iconst rfl ?_
    refine jr.ishr rfl ?_
    have b2 : j_shr r1 4 = r1 / 16 := j_shr_ex 4 (by decide) (by omega) (by omega)
    generalize j_shr r1 4 = v2 at b2 ⊢
    refine jr.i2l rfl (by omega) ?_
    exact jr.lreturn rfl rfl (q _ (by omega) (fun z => by have hw := w1_0; (try simp only [Int.reduceMul, Int.add_zero] at hw); simp only [vof_8_4, nbs_1, nbs_2t, Int.add_zero, rf_a]; omega))
  · refine jc_of (m := xm_274) rfl (Nat.le_of_ble_eq_true rfl) rfl ?_
    refine jr.iload_n rfl rfl ?_
    refine jr.tsw_k 5 rfl rfl rfl ?_
    refine jr.aload_n rfl rfl ?_
    refine jr.iload_n rfl rfl ?_
    refine jr.iload_n rfl rfl ?_
    refine jr.bipush rfl (by decide) ?_
    refine jr.iadd rfl ?_
    refine jr_v rfl rfl (Or.inl rfl) rfl rfl (by decide) rfl ⟨rfl, Nat.le_of_ble_eq_true rfl, Nat.le_of_ble_eq_true rfl⟩ rfl (jc.deep (r_one hI_M hH_M hS_M (Kp.rfl _) (by omega) (by omega)  (fun r1 z1 w1_0 => ?_)) (by decide))
    refine jr.i2l rfl (by omega) ?_
    exact jr.lreturn rfl rfl (q _ (by omega) (fun z => by have hw := w1_0; (try simp only [Int.reduceMul, Int.add_zero] at hw); simp only [vof_8_5, nbs_1, nbs_2t, Int.add_zero, rf_a]; omega))
  · refine jc_of (m := xm_274) rfl (Nat.le_of_ble_eq_true rfl) rfl ?_
    refine jr.iload_n rfl rfl ?_
    refine jr.tsw_d rfl (by decide) (by decide) rfl ?_
    refine jr.aload_n rfl rfl ?_
    refine jr.iload_n rfl rfl ?_
    refine jr.iload_n rfl rfl ?_
    refine jr.bipush rfl (by decide) ?_
    refine jr.icmp_ne rfl rfl (by omega) (by omega) (fun h => absurd h (by decide)) (fun _ => ?_)
    refine jr.iload_n rfl rfl ?_
    refine jr.bipush rfl (by decide) ?_
    refine jr.iadd rfl ?_
    refine jr.goto rfl rfl ?_
    refine jr_v rfl rfl (Or.inl rfl) rfl rfl (by decide) rfl ⟨rfl, Nat.le_of_ble_eq_true rfl, Nat.le_of_ble_eq_true rfl⟩ rfl (jc.deep (r_two_x hI_M hH_M hS_M  (by omega) (by omega)  (fun r1 z1 w1_0 => ?_)) (by decide))
    refine jr.i2l rfl (by omega) ?_
    exact jr.lreturn rfl rfl (q _ (by omega) (fun z => by have hw := w1_0; (try simp only [Int.reduceMul, Int.add_zero] at hw); simp only [vof_8_6, nbs_1, nbs_2t, Int.add_zero, rf_a]; omega))
  · refine jc_of (m := xm_274) rfl (Nat.le_of_ble_eq_true rfl) rfl ?_
    refine jr.iload_n rfl rfl ?_
    refine jr.tsw_d rfl (by decide) (by decide) rfl ?_
    refine jr.aload_n rfl rfl ?_
    refine jr.iload_n rfl rfl ?_
    refine jr.iload_n rfl rfl ?_
    refine jr.bipush rfl (by decide) ?_
    refine jr.icmp_ne rfl rfl (by omega) (by omega) (fun _ => ?_) (fun h => absurd (by decide) h)
    refine jr.iload_n rfl rfl ?_
    refine jr.bipush rfl (by decide) ?_
    refine jr.iadd rfl ?_
    refine jr_v rfl rfl (Or.inl rfl) rfl rfl (by decide) rfl ⟨rfl, Nat.le_of_ble_eq_true rfl, Nat.le_of_ble_eq_true rfl⟩ rfl (jc.deep (r_two_x hI_M hH_M hS_M  (by omega) (by omega)  (fun r1 z1 w1_0 => ?_)) (by decide))
    refine jr.i2l rfl (by omega) ?_
    exact jr.lreturn rfl rfl (q _ (by omega) (fun z => by have hw := w1_0; (try simp only [Int.reduceMul, Int.add_zero] at hw); simp only [vof_8_7, nbs_1, nbs_2t, Int.add_zero, rf_a]; omega))
theorem r_valueOf_x {A : Nat → Option (Nat × (Nat → Int32))} {Q : Option Value → jm → Prop} {M : jm} (hI_M : RI M) (hH_M : RH M) (hS_M : RF M) {x : Int} (h_x : 0 ≤ x ∧ x ≤ 23) {k : Int} (h_k : 0 ≤ k ∧ k ≤ 11) {a : Int} (h_a : 0 ≤ a ∧ a ≤ 400) {m : Int} (h_m : 0 ≤ m ∧ m ≤ 400) {f : Int} (h_f : 0 ≤ f ∧ f ≤ 10) (p0 : a + lst k ≤ 400) (p1 : f < xcv_2 k) (q : ∀ (r : Int), (-9223372036854775808) ≤ r ∧ r ≤ 9223372036854775807 → r = vof (rf M x) m k a f → Q (some (.long (Int64.ofInt r))) M) : jc A 6 275 [.ref (598), .int (Int32.ofInt (x)), .int (Int32.ofInt (k)), .int (Int32.ofInt (a)), .int (Int32.ofInt (m)), .int (Int32.ofInt (f))] M Q := by
  rcases (show k = 0 ∨ k = 1 ∨ k = 2 ∨ k = 3 ∨ k = 4 ∨ k = 5 ∨ k = 6 ∨ k = 7 ∨ k = 8 ∨ k = 9 ∨ k = 10 ∨ k = 11 by omega) with rfl | rfl | rfl | rfl | rfl | rfl | rfl | rfl | rfl | rfl | rfl | rfl
  · have lk : lst 0 = 4 := rfl
    have fk : xcv_2 0 = 3 := (by decide +kernel)
    refine jc_of (m := xm_275) rfl (Nat.le_of_ble_eq_true rfl) rfl ?_
    refine jr.iload_n rfl rfl ?_
    refine jr.tsw_k 0 rfl rfl rfl ?_
    refine jr.iload rfl rfl ?_
    refine jr.iconst rfl ?_
    refine jr.icmp_ne rfl rfl (by omega) (by omega) (fun h63 => ?_) (fun h63 => ?_)
    · refine jr.aload_n rfl rfl ?_
      refine jr.iload_n rfl rfl ?_
      refine jr.iload_n rfl rfl ?_
      refine jr.iload rfl rfl ?_
      refine jr.iadd rfl ?_
      refine jr_v rfl rfl (Or.inl rfl) rfl rfl (by decide) rfl ⟨rfl, Nat.le_of_ble_eq_true rfl, Nat.le_of_ble_eq_true rfl⟩ rfl (jc.deep (r_one hI_M hH_M hS_M (Kp.rfl _) (by omega) (by omega)  (fun r1 z1 w1_0 => ?_)) (by decide))
      refine jr.i2l rfl (by omega) ?_
      exact jr.lreturn rfl rfl (q _ (by omega) (by rcases (show f = 0 ∨ f = 1 ∨ f = 2 by omega) with rfl | rfl | rfl <;> first | (exfalso; omega) | (have hw := w1_0; (try simp only [Int.reduceMul, Int.add_zero] at hw); simp only [vof_0_0, vof_0_1, vof_0_2, nbs_1, nbs_2t, Int.add_zero, rf_a]; omega)))
    · refine jr.aload_n rfl rfl ?_
      refine jr.iload_n rfl rfl ?_
      refine jr.iload_n rfl rfl ?_
      refine jr.iconst rfl ?_
      refine jr.iadd rfl ?_
      refine jr_v rfl rfl (Or.inl rfl) rfl rfl (by decide) rfl ⟨rfl, Nat.le_of_ble_eq_true rfl, Nat.le_of_ble_eq_true rfl⟩ rfl (jc.deep (r_two_x hI_M hH_M hS_M  (by omega) (by omega)  (fun r2 z2 w2_0 => ?_)) (by decide))
      refine jr.i2l rfl (by omega) ?_
      refine jr.goto rfl rfl ?_
      exact jr.lreturn rfl rfl (q _ (by omega) (by rcases (show f = 0 ∨ f = 1 ∨ f = 2 by omega) with rfl | rfl | rfl <;> first | (exfalso; omega) | (have hw := w2_0; (try simp only [Int.reduceMul, Int.add_zero] at hw); simp only [vof_0_0, vof_0_1, vof_0_2, nbs_1, nbs_2t, Int.add_zero, rf_a]; omega)))
  · have lk : lst 1 = 4 := rfl
    have fk : xcv_2 1 = 3 := (by decide +kernel)
    refine jc_of (m := xm_275) rfl (Nat.le_of_ble_eq_true rfl) rfl ?_
    refine jr.iload_n rfl rfl ?_
    refine jr.tsw_k 1 rfl rfl rfl ?_
    refine jr.iload rfl rfl ?_
    refine jr.if_ne rfl rfl (by omega) (fun h91 => ?_) (fun h91 => ?_)
    · have sx91 : (1 : Int) ≤ f := by omega
      refine jr.iload rfl rfl ?_
      refine jr.iconst rfl ?_
      refine jr.icmp_ne rfl rfl (by omega) (by omega) (fun h110 => ?_) (fun h110 => ?_)
      · have sx110 : (2 : Int) ≤ f := by omega
        refine jr.aload_n rfl rfl ?_
        refine jr.iload_n rfl rfl ?_
        refine jr.iload_n rfl rfl ?_
        refine jr.iconst rfl ?_
        refine jr.iadd rfl ?_
        refine jr_v rfl rfl (Or.inl rfl) rfl rfl (by decide) rfl ⟨rfl, Nat.le_of_ble_eq_true rfl, Nat.le_of_ble_eq_true rfl⟩ rfl (jc.deep (r_two_x hI_M hH_M hS_M  (by omega) (by omega)  (fun r1 z1 w1_0 => ?_)) (by decide))
        refine jr.i2l rfl (by omega) ?_
        exact jr.lreturn rfl rfl (q _ (by omega) (by rcases (show f = 0 ∨ f = 1 ∨ f = 2 by omega) with rfl | rfl | rfl <;> first | (exfalso; omega) | (have hw := w1_0; (try simp only [Int.reduceMul, Int.add_zero] at hw); simp only [vof_1_0, vof_1_1, vof_1_2, nbs_1, nbs_2t, Int.add_zero, rf_a]; omega)))
      · refine jr.aload_n rfl rfl ?_
        refine jr.iload_n rfl rfl ?_
        refine jr.iload_n rfl rfl ?_
        refine jr_v rfl rfl (Or.inl rfl) rfl rfl (by decide) rfl ⟨rfl, Nat.le_of_ble_eq_true rfl, Nat.le_of_ble_eq_true rfl⟩ rfl (jc.deep (r_two_x hI_M hH_M hS_M  (by omega) (by omega)  (fun r2 z2 w2_0 => ?_)) (by decide))
        refine jr.sipush rfl (by decide) ?_
        refine jr.iand rfl ?_
        have b3 : j_and r2 4095 = r2 % 4096 := j_and_m 12 (by decide) _
        generalize j_and r2 4095 = v3 at b3 ⊢
        refine jr.i2l rfl (by omega) ?_
        refine jr.goto rfl rfl ?_
        exact jr.lreturn rfl rfl (q _ (by omega) (by rcases (show f = 0 ∨ f = 1 ∨ f = 2 by omega) with rfl | rfl | rfl <;> first | (exfalso; omega) | (have hw := w2_0; (try simp only [Int.reduceMul, Int.add_zero] at hw); simp only [vof_1_0, vof_1_1, vof_1_2, nbs_1, nbs_2t, Int.add_zero, rf_a]; omega)))
    · refine jr.aload_n rfl rfl ?_
      refine jr.iload_n rfl rfl ?_
      refine jr.iload_n rfl rfl ?_
      refine jr_v rfl rfl (Or.inl rfl) rfl rfl (by decide) rfl ⟨rfl, Nat.le_of_ble_eq_true rfl, Nat.le_of_ble_eq_true rfl⟩ rfl (jc.deep (r_two_x hI_M hH_M hS_M  (by omega) (by omega)  (fun r4 z4 w4_0 => ?_)) (by decide))
      refine jr.bipush rfl (by decide) ?_
      refine jr.ishr rfl ?_
      have b5 : j_shr r4 12 = r4 / 4096 := j_shr_ex 12 (by decide) (by omega) (by omega)
      generalize j_shr r4 12 = v5 at b5 ⊢
      refine jr.i2l rfl (by omega) ?_
      refine jr.goto rfl rfl ?_
      exact jr.lreturn rfl rfl (q _ (by omega) (by rcases (show f = 0 ∨ f = 1 ∨ f = 2 by omega) with rfl | rfl | rfl <;> first | (exfalso; omega) | (have hw := w4_0; (try simp only [Int.reduceMul, Int.add_zero] at hw); simp only [vof_1_0, vof_1_1, vof_1_2, nbs_1, nbs_2t, Int.add_zero, rf_a]; omega)))
  · have lk : lst 2 = 20 := rfl
    have fk : xcv_2 2 = 11 := (by decide +kernel)
    refine jc_of (m := xm_275) rfl (Nat.le_of_ble_eq_true rfl) rfl ?_
    refine jr.iload_n rfl rfl ?_
    refine jr.tsw_k 2 rfl rfl rfl ?_
    refine jr.aload_n rfl rfl ?_
    refine jr.iload_n rfl rfl ?_
    refine jr.iload_n rfl rfl ?_
    refine jr.iload rfl rfl ?_
    refine jr_v rfl rfl (Or.inl rfl) rfl rfl (by decide) rfl ⟨rfl, Nat.le_of_ble_eq_true rfl, Nat.le_of_ble_eq_true rfl⟩ rfl (jc.deep (r_ofFour_x hI_M hH_M hS_M  (by omega) (by omega) (by omega)  (fun r1 z1 w1_0 => ?_)) (by decide))
    exact jr.lreturn rfl rfl (q _ (by omega) (w1_0 m))
  · have lk : lst 3 = 24 := rfl
    have fk : xcv_2 3 = 7 := (by decide +kernel)
    refine jc_of (m := xm_275) rfl (Nat.le_of_ble_eq_true rfl) rfl ?_
    refine jr.iload_n rfl rfl ?_
    refine jr.tsw_k 3 rfl rfl rfl ?_
    refine jr.aload_n rfl rfl ?_
    refine jr.iload_n rfl rfl ?_
    refine jr.iload_n rfl rfl ?_
    refine jr.iload rfl rfl ?_
    refine jr_v rfl rfl (Or.inl rfl) rfl rfl (by decide) rfl ⟨rfl, Nat.le_of_ble_eq_true rfl, Nat.le_of_ble_eq_true rfl⟩ rfl (jc.deep (r_ofSix_x hI_M hH_M hS_M  (by omega) (by omega) (by omega)  (fun r1 z1 w1_0 => ?_)) (by decide))
    exact jr.lreturn rfl rfl (q _ (by omega) (w1_0 m))
  · have lk : lst 4 = 8 := rfl
    have fk : xcv_2 4 = 2 := (by decide +kernel)
    refine jc_of (m := xm_275) rfl (Nat.le_of_ble_eq_true rfl) rfl ?_
    refine jr.iload_n rfl rfl ?_
    refine jr.tsw_k 4 rfl rfl rfl ?_
    refine jr.aload_n rfl rfl ?_
    refine jr.iload_n rfl rfl ?_
    refine jr.iload_n rfl rfl ?_
    refine jr.iload rfl rfl ?_
    refine jr.iadd rfl ?_
    refine jr_v rfl rfl (Or.inl rfl) rfl rfl (by decide) rfl ⟨rfl, Nat.le_of_ble_eq_true rfl, Nat.le_of_ble_eq_true rfl⟩ rfl (jc.deep (r_one hI_M hH_M hS_M (Kp.rfl _) (by omega) (by omega)  (fun r1 z1 w1_0 => ?_)) (by decide))
    refine jr.i2l rfl (by omega) ?_
    exact jr.lreturn rfl rfl (q _ (by omega) (by rcases (show f = 0 ∨ f = 1 by omega) with rfl | rfl <;> first | (exfalso; omega) | (have hw := w1_0; (try simp only [Int.reduceMul, Int.add_zero] at hw); simp only [vof_4_0, vof_4_1, nbs_1, nbs_2t, Int.add_zero, rf_a]; omega)))
  · have lk : lst 5 = 8 := rfl
    have fk : xcv_2 5 = 3 := (by decide +kernel)
    refine jc_of (m := xm_275) rfl (Nat.le_of_ble_eq_true rfl) rfl ?_
    refine jr.iload_n rfl rfl ?_
    refine jr.tsw_k 5 rfl rfl rfl ?_
    refine jr.aload_n rfl rfl ?_
    refine jr.iload_n rfl rfl ?_
    refine jr.iload_n rfl rfl ?_
    refine jr.iload rfl rfl ?_
    refine jr.iadd rfl ?_
    refine jr_v rfl rfl (Or.inl rfl) rfl rfl (by decide) rfl ⟨rfl, Nat.le_of_ble_eq_true rfl, Nat.le_of_ble_eq_true rfl⟩ rfl (jc.deep (r_one hI_M hH_M hS_M (Kp.rfl _) (by omega) (by omega)  (fun r1 z1 w1_0 => ?_)) (by decide))
    refine jr.i2l rfl (by omega) ?_
    exact jr.lreturn rfl rfl (q _ (by omega) (by rcases (show f = 0 ∨ f = 1 ∨ f = 2 by omega) with rfl | rfl | rfl <;> first | (exfalso; omega) | (have hw := w1_0; (try simp only [Int.reduceMul, Int.add_zero] at hw); simp only [vof_5_0, vof_5_1, vof_5_2, nbs_1, nbs_2t, Int.add_zero, rf_a]; omega)))
  · have lk : lst 6 = 8 := rfl
    have fk : xcv_2 6 = 4 := (by decide +kernel)
    refine jc_of (m := xm_275) rfl (Nat.le_of_ble_eq_true rfl) rfl ?_
    refine jr.iload_n rfl rfl ?_
    refine jr.tsw_k 6 rfl rfl rfl ?_
    refine jr.iload rfl rfl ?_
    refine jr.if_ne rfl rfl (by omega) (fun h168 => ?_) (fun h168 => ?_)
    · have sx168 : (1 : Int) ≤ f := by omega
      refine jr.iload rfl rfl ?_
      refine jr.iconst rfl ?_
      refine jr.icmp_ne rfl rfl (by omega) (by omega) (fun h184 => ?_) (fun h184 => ?_)
      · have sx184 : (2 : Int) ≤ f := by omega
        refine jr.iload rfl rfl ?_
        refine jr.iconst rfl ?_
        refine jr.icmp_ne rfl rfl (by omega) (by omega) (fun h204 => ?_) (fun h204 => ?_)
        · have sx204 : (3 : Int) ≤ f := by omega
          refine jr.aload_n rfl rfl ?_
          refine jr.iload_n rfl rfl ?_
          refine jr.iload_n rfl rfl ?_
          refine jr.iconst rfl ?_
          refine jr.iadd rfl ?_
          refine jr_v rfl rfl (Or.inl rfl) rfl rfl (by decide) rfl ⟨rfl, Nat.le_of_ble_eq_true rfl, Nat.le_of_ble_eq_true rfl⟩ rfl (jc.deep (r_four_x hI_M hH_M hS_M  (by omega) (by omega)  (fun r1 z1 w1_0 => ?_)) (by decide))
          exact jr.lreturn rfl rfl (q _ (by omega) (by rcases (show f = 0 ∨ f = 1 ∨ f = 2 ∨ f = 3 by omega) with rfl | rfl | rfl | rfl <;> first | (exfalso; omega) | (have hw := w1_0; (try simp only [Int.reduceMul, Int.add_zero] at hw); simp only [vof_6_0, vof_6_1, vof_6_2, vof_6_3, nbs_1, nbs_2t, Int.add_zero, rf_a]; omega)))
        · refine jr.aload_n rfl rfl ?_
          refine jr.iload_n rfl rfl ?_
          refine jr.iload_n rfl rfl ?_
          refine jr.iconst rfl ?_
          refine jr.iadd rfl ?_
          refine jr_v rfl rfl (Or.inl rfl) rfl rfl (by decide) rfl ⟨rfl, Nat.le_of_ble_eq_true rfl, Nat.le_of_ble_eq_true rfl⟩ rfl (jc.deep (r_two_x hI_M hH_M hS_M  (by omega) (by omega)  (fun r2 z2 w2_0 => ?_)) (by decide))
          refine jr.iconst rfl ?_
          refine jr.iand rfl ?_
          have b3 : j_and r2 1 = r2 % 2 := j_and_m 1 (by decide) _
          generalize j_and r2 1 = v3 at b3 ⊢
          refine jr.i2l rfl (by omega) ?_
          refine jr.goto rfl rfl ?_
          exact jr.lreturn rfl rfl (q _ (by omega) (by rcases (show f = 0 ∨ f = 1 ∨ f = 2 ∨ f = 3 by omega) with rfl | rfl | rfl | rfl <;> first | (exfalso; omega) | (have hw := w2_0; (try simp only [Int.reduceMul, Int.add_zero] at hw); simp only [vof_6_0, vof_6_1, vof_6_2, vof_6_3, nbs_1, nbs_2t, Int.add_zero, rf_a]; omega)))
      · refine jr.aload_n rfl rfl ?_
        refine jr.iload_n rfl rfl ?_
        refine jr.iload_n rfl rfl ?_
        refine jr.iconst rfl ?_
        refine jr.iadd rfl ?_
        refine jr_v rfl rfl (Or.inl rfl) rfl rfl (by decide) rfl ⟨rfl, Nat.le_of_ble_eq_true rfl, Nat.le_of_ble_eq_true rfl⟩ rfl (jc.deep (r_two_x hI_M hH_M hS_M  (by omega) (by omega)  (fun r4 z4 w4_0 => ?_)) (by decide))
        refine jr.iconst rfl ?_
        refine jr.ishr rfl ?_
        have b5 : j_shr r4 3 = r4 / 8 := j_shr_ex 3 (by decide) (by omega) (by omega)
        generalize j_shr r4 3 = v5 at b5 ⊢
        refine jr.i2l rfl (by omega) ?_
        refine jr.goto rfl rfl ?_
        exact jr.lreturn rfl rfl (q _ (by omega) (by rcases (show f = 0 ∨ f = 1 ∨ f = 2 ∨ f = 3 by omega) with rfl | rfl | rfl | rfl <;> first | (exfalso; omega) | (have hw := w4_0; (try simp only [Int.reduceMul, Int.add_zero] at hw); simp only [vof_6_0, vof_6_1, vof_6_2, vof_6_3, nbs_1, nbs_2t, Int.add_zero, rf_a]; omega)))
    · refine jr.aload_n rfl rfl ?_
      refine jr.iload_n rfl rfl ?_
      refine jr.iload_n rfl rfl ?_
      refine jr_v rfl rfl (Or.inl rfl) rfl rfl (by decide) rfl ⟨rfl, Nat.le_of_ble_eq_true rfl, Nat.le_of_ble_eq_true rfl⟩ rfl (jc.deep (r_one hI_M hH_M hS_M (Kp.rfl _) (by omega) (by omega)  (fun r6 z6 w6_0 => ?_)) (by decide))
      refine jr.i2l rfl (by omega) ?_
      refine jr.goto rfl rfl ?_
      exact jr.lreturn rfl rfl (q _ (by omega) (by rcases (show f = 0 ∨ f = 1 ∨ f = 2 ∨ f = 3 by omega) with rfl | rfl | rfl | rfl <;> first | (exfalso; omega) | (have hw := w6_0; (try simp only [Int.reduceMul, Int.add_zero] at hw); simp only [vof_6_0, vof_6_1, vof_6_2, vof_6_3, nbs_1, nbs_2t, Int.add_zero, rf_a]; omega)))
  · have lk : lst 7 = 8 := rfl
    have fk : xcv_2 7 = 4 := (by decide +kernel)
    refine jc_of (m := xm_275) rfl (Nat.le_of_ble_eq_true rfl) rfl ?_
    refine jr.iload_n rfl rfl ?_
    refine jr.tsw_k 7 rfl rfl rfl ?_
    refine jr.iload rfl rfl ?_
    refine jr.iconst rfl ?_
    refine jr.icmp_ge rfl rfl (by omega) (by omega) (fun h233 => ?_) (fun h233 => ?_)
    · refine jr.iload rfl rfl ?_
      refine jr.iconst rfl ?_
      refine jr.icmp_ne rfl rfl (by omega) (by omega) (fun h252 => ?_) (fun h252 => ?_)
      · have sx252 : (3 : Int) ≤ f := by omega
        refine jr.aload_n rfl rfl ?_
        refine jr.iload_n rfl rfl ?_
        refine jr.iload_n rfl rfl ?_
        refine jr.iconst rfl ?_
        refine jr.iadd rfl ?_
        refine jr_v rfl rfl (Or.inl rfl) rfl rfl (by decide) rfl ⟨rfl, Nat.le_of_ble_eq_true rfl, Nat.le_of_ble_eq_true rfl⟩ rfl (jc.deep (r_four_x hI_M hH_M hS_M  (by omega) (by omega)  (fun r1 z1 w1_0 => ?_)) (by decide))
        exact jr.lreturn rfl rfl (q _ (by omega) (by rcases (show f = 0 ∨ f = 1 ∨ f = 2 ∨ f = 3 by omega) with rfl | rfl | rfl | rfl <;> first | (exfalso; omega) | (have hw := w1_0; (try simp only [Int.reduceMul, Int.add_zero] at hw); simp only [vof_7_0, vof_7_1, vof_7_2, vof_7_3, nbs_1, nbs_2t, Int.add_zero, rf_a]; omega)))
      · refine jr.aload_n rfl rfl ?_
        refine jr.iload_n rfl rfl ?_
        refine jr.iload_n rfl rfl ?_
        refine jr.iconst rfl ?_
        refine jr.iadd rfl ?_
        refine jr_v rfl rfl (Or.inl rfl) rfl rfl (by decide) rfl ⟨rfl, Nat.le_of_ble_eq_true rfl, Nat.le_of_ble_eq_true rfl⟩ rfl (jc.deep (r_two_x hI_M hH_M hS_M  (by omega) (by omega)  (fun r2 z2 w2_0 => ?_)) (by decide))
        refine jr.i2l rfl (by omega) ?_
        refine jr.goto rfl rfl ?_
        exact jr.lreturn rfl rfl (q _ (by omega) (by rcases (show f = 0 ∨ f = 1 ∨ f = 2 ∨ f = 3 by omega) with rfl | rfl | rfl | rfl <;> first | (exfalso; omega) | (have hw := w2_0; (try simp only [Int.reduceMul, Int.add_zero] at hw); simp only [vof_7_0, vof_7_1, vof_7_2, vof_7_3, nbs_1, nbs_2t, Int.add_zero, rf_a]; omega)))
    · refine jr.aload_n rfl rfl ?_
      refine jr.iload_n rfl rfl ?_
      refine jr.iload_n rfl rfl ?_
      refine jr.iload rfl rfl ?_
      refine jr.iadd rfl ?_
      refine jr_v rfl rfl (Or.inl rfl) rfl rfl (by decide) rfl ⟨rfl, Nat.le_of_ble_eq_true rfl, Nat.le_of_ble_eq_true rfl⟩ rfl (jc.deep (r_one hI_M hH_M hS_M (Kp.rfl _) (by omega) (by omega)  (fun r3 z3 w3_0 => ?_)) (by decide))
      refine jr.i2l rfl (by omega) ?_
      refine jr.goto rfl rfl ?_
      exact jr.lreturn rfl rfl (q _ (by omega) (by rcases (show f = 0 ∨ f = 1 ∨ f = 2 ∨ f = 3 by omega) with rfl | rfl | rfl | rfl <;> first | (exfalso; omega) | (have hw := w3_0; (try simp only [Int.reduceMul, Int.add_zero] at hw); simp only [vof_7_0, vof_7_1, vof_7_2, vof_7_3, nbs_1, nbs_2t, Int.add_zero, rf_a]; omega)))
  · have lk : lst 8 = 20 := rfl
    have fk : xcv_2 8 = 8 := (by decide +kernel)
    refine jc_of (m := xm_275) rfl (Nat.le_of_ble_eq_true rfl) rfl ?_
    refine jr.iload_n rfl rfl ?_
    refine jr.tsw_k 8 rfl rfl rfl ?_
    refine jr.aload_n rfl rfl ?_
    refine jr.iload_n rfl rfl ?_
    refine jr.iload_n rfl rfl ?_
    refine jr.iload rfl rfl ?_
    refine jr_v rfl rfl (Or.inl rfl) rfl rfl (by decide) rfl ⟨rfl, Nat.le_of_ble_eq_true rfl, Nat.le_of_ble_eq_true rfl⟩ rfl (jc.deep (r_ofStream_x hI_M hH_M hS_M  (by omega) (by omega) (by omega)  (fun r1 z1 w1_0 => ?_)) (by decide))
    exact jr.lreturn rfl rfl (q _ (by omega) (w1_0 m))
  · have lk : lst 9 = 8 := rfl
    have fk : xcv_2 9 = 4 := (by decide +kernel)
    refine jc_of (m := xm_275) rfl (Nat.le_of_ble_eq_true rfl) rfl ?_
    refine jr.iload_n rfl rfl ?_
    refine jr.tsw_k 9 rfl rfl rfl ?_
    refine jr.aload_n rfl rfl ?_
    refine jr.iload_n rfl rfl ?_
    refine jr.iload_n rfl rfl ?_
    refine jr.iconst rfl ?_
    refine jr.iload rfl rfl ?_
    refine jr.imul rfl ?_
    refine jr.iadd rfl ?_
    refine jr_v rfl rfl (Or.inl rfl) rfl rfl (by decide) rfl ⟨rfl, Nat.le_of_ble_eq_true rfl, Nat.le_of_ble_eq_true rfl⟩ rfl (jc.deep (r_two_x hI_M hH_M hS_M  (by omega) (by omega)  (fun r1 z1 w1_0 => ?_)) (by decide))
    refine jr.i2l rfl (by omega) ?_
    exact jr.lreturn rfl rfl (q _ (by omega) (by rcases (show f = 0 ∨ f = 1 ∨ f = 2 ∨ f = 3 by omega) with rfl | rfl | rfl | rfl <;> first | (exfalso; omega) | (have hw := w1_0; (try simp only [Int.reduceMul, Int.add_zero] at hw); simp only [vof_9_0, vof_9_1, vof_9_2, vof_9_3, nbs_1, nbs_2t, Int.add_zero, rf_a]; omega)))
  · have lk : lst 10 = 4 := rfl
    have fk : xcv_2 10 = 2 := (by decide +kernel)
    refine jc_of (m := xm_275) rfl (Nat.le_of_ble_eq_true rfl) rfl ?_
    refine jr.iload_n rfl rfl ?_
    refine jr.tsw_k 10 rfl rfl rfl ?_
    refine jr.aload_n rfl rfl ?_
    refine jr.iload_n rfl rfl ?_
    refine jr.iload_n rfl rfl ?_
    refine jr.iconst rfl ?_
    refine jr.iload rfl rfl ?_
    refine jr.imul rfl ?_
    refine jr.iadd rfl ?_
    refine jr_v rfl rfl (Or.inl rfl) rfl rfl (by decide) rfl ⟨rfl, Nat.le_of_ble_eq_true rfl, Nat.le_of_ble_eq_true rfl⟩ rfl (jc.deep (r_two_x hI_M hH_M hS_M  (by omega) (by omega)  (fun r1 z1 w1_0 => ?_)) (by decide))
    refine jr.i2l rfl (by omega) ?_
    exact jr.lreturn rfl rfl (q _ (by omega) (by rcases (show f = 0 ∨ f = 1 by omega) with rfl | rfl <;> first | (exfalso; omega) | (have hw := w1_0; (try simp only [Int.reduceMul, Int.add_zero] at hw); simp only [vof_10_0, vof_10_1, nbs_1, nbs_2t, Int.add_zero, rf_a]; omega)))
  · have lk : lst 11 = 0 := rfl
    have fk : xcv_2 11 = 1 := (by decide +kernel)
    refine jc_of (m := xm_275) rfl (Nat.le_of_ble_eq_true rfl) rfl ?_
    refine jr.iload_n rfl rfl ?_
    refine jr.tsw_d rfl (by decide) (by decide) rfl ?_
    refine jr.iload rfl rfl ?_
    refine jr.i2l rfl (by omega) ?_
    exact jr.lreturn rfl rfl (q _ (by omega) rfl)
theorem r_kind_x {A : Nat → Option (Nat × (Nat → Int32))} {Q : Option Value → jm → Prop} {M : jm} (hI_M : RI M) (hH_M : RH M) (hS_M : RF M) {x : Int} (h_x : (-2147483648) ≤ x ∧ x ≤ 2147483647) {h : Int} (h_h : (-2147483648) ≤ h ∧ h ≤ 2147483647) (q : ∀ (r : Int) (M' : jm), RI M' → RH M' → RF M' → (-2) ≤ r ∧ r ≤ 11 → (((x < 0 ∨ 23 < x ∨ M 600 x = -1) ∧ r = -2) ∨ (((0 ≤ x ∧ x ≤ 23) ∧ M 600 x ≠ -1) ∧ ∃ C : Int, HE (rf M x) (M 600 x) C ∧ r = kA (rf M x) (M 600 x) C h)) → (∀ (a : Nat) (i : Int), a ≠ 598 → a ≠ 603 → a ≠ 604 → a ≠ 605 → M' a i = M a i) → (∀ (i : Int), i ≠ 6 → i ≠ 10 → i ≠ 11 → i ≠ 12 → M' 598 i = M 598 i) → Q (some (.int (Int32.ofInt r))) M') : jc A 5 269 [.ref (598), .int (Int32.ofInt (x)), .int (Int32.ofInt (h))] M Q := by
  refine jc_of (m := xm_269) rfl (Nat.le_of_ble_eq_true rfl) rfl ?_
  refine jr.aload_n rfl rfl ?_
  refine jr.iload_n rfl rfl ?_
  refine jr_v rfl rfl (Or.inl rfl) rfl rfl (by decide) rfl ⟨rfl, Nat.le_of_ble_eq_true rfl, Nat.le_of_ble_eq_true rfl⟩ rfl (jc.deep (c_isThere hI_M (by omega) (fun l2 u2 t2 => ?_) (fun n2 => ?_)) (by decide))
  · refine jr.if_ne rfl rfl (by omega) (fun _ => ?_) (fun h => absurd (by decide) h)
    refine jr.aload_n rfl rfl ?_
    refine jr.iload_n rfl rfl ?_
    obtain ⟨v2, e2⟩ : ∃ z, M 600 x = z := ⟨_, rfl⟩
    have b2 : (-1) ≤ v2 ∧ v2 ≤ 400 := by rw [← e2]; exact (by have q := hI_M 600 x (by decide); rw [xri_row rfl rfl] at q; exact q)
    refine jr_v rfl rfl (Or.inl rfl) rfl rfl (by decide) rfl ⟨rfl, Nat.le_of_ble_eq_true rfl, Nat.le_of_ble_eq_true rfl⟩ rfl (jc.deep (r_look_x hI_M hH_M hS_M  (by omega) (by rw [e2]; omega) (fun M1 hI_M1 hH_M1 hS_M1  w1_0 w1_1 w1_2 w1_3 => ?_)) (by decide))
    refine jr.iload_n rfl rfl ?_
    refine jr.i2l rfl (by omega) ?_
    refine jr.lconst (x := 0) rfl (by decide) ?_
    refine jr.aload_n rfl rfl ?_
    obtain ⟨v3, e3⟩ : ∃ z, M1 598 6 = z := ⟨_, rfl⟩
    have b3 : 0 ≤ v3 ∧ v3 ≤ 12 := by rw [← e3]; exact hI_M1 598 6 (by decide)
    refine jr.getf (i := 6) (x := v3) (v := .int (Int32.ofInt (v3))) rfl rfl (by decide) rfl (by decide) rfl rfl e3 rfl ?_
    refine jr.iconst rfl ?_
    refine jr.isub rfl ?_
    refine jr.i2l rfl (by omega) ?_
    refine jr_s rfl rfl (Or.inl rfl) ⟨Nat.le_of_ble_eq_true rfl, Nat.le_of_ble_eq_true rfl⟩ rfl rfl (jc.deep (c_within (by omega) (by omega) (by omega) (fun l26 u26 => ?_) (fun n26 => ?_)) (by decide))
    · refine jr.if_eq rfl rfl (by omega) (fun h => absurd h (by decide)) (fun _ => ?_)
      refine jr.aload_n rfl rfl ?_
      refine jr.getf (i := 7) (v := .ref 603) rfl rfl (by decide) rfl (by decide) rfl rfl rfl rfl ?_
      refine jr.iload_n rfl rfl ?_
      obtain ⟨v4, e4⟩ : ∃ z, M1 603 h = z := ⟨_, rfl⟩
      have b4 : 0 ≤ v4 ∧ v4 ≤ 11 := by rw [← e4]; exact (by have q := hI_M1 603 h (by decide); rw [xri_row rfl rfl] at q; exact q)
      refine jr.iald (i := h) (x := v4) rfl (by decide) rfl (by decide) (by omega) (by omega) e4 ?_
      refine jr.goto rfl rfl ?_
      exact jr.ireturn rfl rfl rfl (q _ _ hI_M1 hH_M1 hS_M1  (by omega) (Or.inr ⟨by omega, M1 598 6, HQ6.e w1_1, (by have hr := w1_1.2.1 h (by omega) (by omega); have h1 : M1 603 h = _ := hr.2.1; have h2 : M1 604 h = _ := hr.2.2.1; unfold kA; rw [if_pos ⟨by omega, by omega⟩]; omega)⟩) (fun a i f598 f603 f604 f605 => ((w1_2 a i f598 f603 f604 f605).trans rfl)) (fun i g6 g10 g11 g12 => ((w1_3 i g6 g10 g11 g12).trans rfl)))
    · refine jr.if_eq rfl rfl (by omega) (fun _ => ?_) (fun h => absurd (by decide) h)
      refine jr.iconst rfl ?_
      exact jr.ireturn rfl rfl rfl (q _ _ hI_M1 hH_M1 hS_M1  (by omega) (Or.inr ⟨by omega, M1 598 6, HQ6.e w1_1, (by unfold kA; rw [if_neg (by omega)])⟩) (fun a i f598 f603 f604 f605 => ((w1_2 a i f598 f603 f604 f605).trans rfl)) (fun i g6 g10 g11 g12 => ((w1_3 i g6 g10 g11 g12).trans rfl)))
  · refine jr.if_ne rfl rfl (by omega) (fun h => absurd h (by decide)) (fun _ => ?_)
    refine jr.bipush rfl (by decide) ?_
    exact jr.ireturn rfl rfl rfl (q _ _ hI_M hH_M hS_M  (by omega) (Or.inl ⟨by omega, by omega⟩) (fun a i f598 f603 f604 f605 => rfl) (fun i g6 g10 g11 g12 => rfl))
theorem r_place_x {A : Nat → Option (Nat × (Nat → Int32))} {Q : Option Value → jm → Prop} {M : jm} (hI_M : RI M) (hH_M : RH M) (hS_M : RF M) {x : Int} (h_x : (-2147483648) ≤ x ∧ x ≤ 2147483647) {h : Int} (h_h : (-2147483648) ≤ h ∧ h ≤ 2147483647) (q : ∀ (r : Int) (M' : jm), RI M' → RH M' → RF M' → (-2) ≤ r ∧ r ≤ 400 → (((x < 0 ∨ 23 < x ∨ M 600 x = -1) ∧ r = -2) ∨ (((0 ≤ x ∧ x ≤ 23) ∧ M 600 x ≠ -1) ∧ ∃ C : Int, HE (rf M x) (M 600 x) C ∧ r = pA (rf M x) (M 600 x) C h)) → (∀ (a : Nat) (i : Int), a ≠ 598 → a ≠ 603 → a ≠ 604 → a ≠ 605 → M' a i = M a i) → (∀ (i : Int), i ≠ 6 → i ≠ 10 → i ≠ 11 → i ≠ 12 → M' 598 i = M 598 i) → Q (some (.int (Int32.ofInt r))) M') : jc A 5 270 [.ref (598), .int (Int32.ofInt (x)), .int (Int32.ofInt (h))] M Q := by
  refine jc_of (m := xm_270) rfl (Nat.le_of_ble_eq_true rfl) rfl ?_
  refine jr.aload_n rfl rfl ?_
  refine jr.iload_n rfl rfl ?_
  refine jr_v rfl rfl (Or.inl rfl) rfl rfl (by decide) rfl ⟨rfl, Nat.le_of_ble_eq_true rfl, Nat.le_of_ble_eq_true rfl⟩ rfl (jc.deep (c_isThere hI_M (by omega) (fun l2 u2 t2 => ?_) (fun n2 => ?_)) (by decide))
  · refine jr.if_ne rfl rfl (by omega) (fun _ => ?_) (fun h => absurd (by decide) h)
    refine jr.aload_n rfl rfl ?_
    refine jr.iload_n rfl rfl ?_
    obtain ⟨v2, e2⟩ : ∃ z, M 600 x = z := ⟨_, rfl⟩
    have b2 : (-1) ≤ v2 ∧ v2 ≤ 400 := by rw [← e2]; exact (by have q := hI_M 600 x (by decide); rw [xri_row rfl rfl] at q; exact q)
    refine jr_v rfl rfl (Or.inl rfl) rfl rfl (by decide) rfl ⟨rfl, Nat.le_of_ble_eq_true rfl, Nat.le_of_ble_eq_true rfl⟩ rfl (jc.deep (r_look_x hI_M hH_M hS_M  (by omega) (by rw [e2]; omega) (fun M1 hI_M1 hH_M1 hS_M1  w1_0 w1_1 w1_2 w1_3 => ?_)) (by decide))
    refine jr.iload_n rfl rfl ?_
    refine jr.i2l rfl (by omega) ?_
    refine jr.lconst (x := 0) rfl (by decide) ?_
    refine jr.aload_n rfl rfl ?_
    obtain ⟨v3, e3⟩ : ∃ z, M1 598 6 = z := ⟨_, rfl⟩
    have b3 : 0 ≤ v3 ∧ v3 ≤ 12 := by rw [← e3]; exact hI_M1 598 6 (by decide)
    refine jr.getf (i := 6) (x := v3) (v := .int (Int32.ofInt (v3))) rfl rfl (by decide) rfl (by decide) rfl rfl e3 rfl ?_
    refine jr.iconst rfl ?_
    refine jr.isub rfl ?_
    refine jr.i2l rfl (by omega) ?_
    refine jr_s rfl rfl (Or.inl rfl) ⟨Nat.le_of_ble_eq_true rfl, Nat.le_of_ble_eq_true rfl⟩ rfl rfl (jc.deep (c_within (by omega) (by omega) (by omega) (fun l26 u26 => ?_) (fun n26 => ?_)) (by decide))
    · refine jr.if_eq rfl rfl (by omega) (fun h => absurd h (by decide)) (fun _ => ?_)
      refine jr.aload_n rfl rfl ?_
      refine jr.getf (i := 8) (v := .ref 604) rfl rfl (by decide) rfl (by decide) rfl rfl rfl rfl ?_
      refine jr.iload_n rfl rfl ?_
      obtain ⟨v4, e4⟩ : ∃ z, M1 604 h = z := ⟨_, rfl⟩
      have b4 : 0 ≤ v4 ∧ v4 ≤ 400 := by rw [← e4]; exact (by have q := hI_M1 604 h (by decide); rw [xri_row rfl rfl] at q; exact q)
      refine jr.iald (i := h) (x := v4) rfl (by decide) rfl (by decide) (by omega) (by omega) e4 ?_
      refine jr.goto rfl rfl ?_
      exact jr.ireturn rfl rfl rfl (q _ _ hI_M1 hH_M1 hS_M1  (by omega) (Or.inr ⟨by omega, M1 598 6, HQ6.e w1_1, (by have hr := w1_1.2.1 h (by omega) (by omega); have h1 : M1 603 h = _ := hr.2.1; have h2 : M1 604 h = _ := hr.2.2.1; unfold pA; rw [if_pos ⟨by omega, by omega⟩]; omega)⟩) (fun a i f598 f603 f604 f605 => ((w1_2 a i f598 f603 f604 f605).trans rfl)) (fun i g6 g10 g11 g12 => ((w1_3 i g6 g10 g11 g12).trans rfl)))
    · refine jr.if_eq rfl rfl (by omega) (fun _ => ?_) (fun h => absurd (by decide) h)
      refine jr.iconst rfl ?_
      exact jr.ireturn rfl rfl rfl (q _ _ hI_M1 hH_M1 hS_M1  (by omega) (Or.inr ⟨by omega, M1 598 6, HQ6.e w1_1, (by unfold pA; rw [if_neg (by omega)])⟩) (fun a i f598 f603 f604 f605 => ((w1_2 a i f598 f603 f604 f605).trans rfl)) (fun i g6 g10 g11 g12 => ((w1_3 i g6 g10 g11 g12).trans rfl)))
  · refine jr.if_ne rfl rfl (by omega) (fun h => absurd h (by decide)) (fun _ => ?_)
    refine jr.bipush rfl (by decide) ?_
    exact jr.ireturn rfl rfl rfl (q _ _ hI_M hH_M hS_M  (by omega) (Or.inl ⟨by omega, by omega⟩) (fun a i f598 f603 f604 f605 => rfl) (fun i g6 g10 g11 g12 => rfl))
end
section
/-! ===== the reference: field, read, carried, sums, repair ===== -/
theorem r_field_x {A : Nat → Option (Nat × (Nat → Int32))} {Q : Option Value → jm → Prop} {M : jm} (hI_M : RI M) (hH_M : RH M) (hS_M : RF M) {x : Int} (h_x : (-2147483648) ≤ x ∧ x ≤ 2147483647) {h : Int} (h_h : (-2147483648) ≤ h ∧ h ≤ 2147483647) {j : Int} (h_j : (-2147483648) ≤ j ∧ j ≤ 2147483647) (q : ∀ (r : Int) (M' : jm), RI M' → RH M' → RF M' → (-9223372036854775808) ≤ r ∧ r ≤ 9223372036854775807 → (((x < 0 ∨ 23 < x ∨ M 600 x = -1) ∧ r = -2) ∨ (((0 ≤ x ∧ x ≤ 23) ∧ M 600 x ≠ -1) ∧ ∃ C : Int, HE (rf M x) (M 600 x) C ∧ r = vA (rf M x) (M 600 x) C h j)) → (∀ (a : Nat) (i : Int), a ≠ 598 → a ≠ 603 → a ≠ 604 → a ≠ 605 → M' a i = M a i) → (∀ (i : Int), i ≠ 6 → i ≠ 10 → i ≠ 11 → i ≠ 12 → M' 598 i = M 598 i) → Q (some (.long (Int64.ofInt r))) M') : jc A 7 276 [.ref (598), .int (Int32.ofInt (x)), .int (Int32.ofInt (h)), .int (Int32.ofInt (j))] M Q := by
  refine jc_of (m := xm_276) rfl (Nat.le_of_ble_eq_true rfl) rfl ?_
  refine jr.aload_n rfl rfl ?_
  refine jr.iload_n rfl rfl ?_
  refine jr_v rfl rfl (Or.inl rfl) rfl rfl (by decide) rfl ⟨rfl, Nat.le_of_ble_eq_true rfl, Nat.le_of_ble_eq_true rfl⟩ rfl (jc.deep (c_isThere hI_M (by omega) (fun l2 u2 t2 => ?_) (fun n2 => ?_)) (by decide))
  · refine jr.if_ne rfl rfl (by omega) (fun _ => ?_) (fun h => absurd (by decide) h)
    refine jr.aload_n rfl rfl ?_
    refine jr.iload_n rfl rfl ?_
    obtain ⟨v2, e2⟩ : ∃ z, M 600 x = z := ⟨_, rfl⟩
    have b2 : (-1) ≤ v2 ∧ v2 ≤ 400 := by rw [← e2]; exact (by have q := hI_M 600 x (by decide); rw [xri_row rfl rfl] at q; exact q)
    refine jr_v rfl rfl (Or.inl rfl) rfl rfl (by decide) rfl ⟨rfl, Nat.le_of_ble_eq_true rfl, Nat.le_of_ble_eq_true rfl⟩ rfl (jc.deep (r_look_x hI_M hH_M hS_M  (by omega) (by rw [e2]; omega) (fun M1 hI_M1 hH_M1 hS_M1  w1_0 w1_1 w1_2 w1_3 => ?_)) (by decide))
    refine jr.iload_n rfl rfl ?_
    refine jr.i2l rfl (by omega) ?_
    refine jr.lconst (x := 0) rfl (by decide) ?_
    refine jr.aload_n rfl rfl ?_
    obtain ⟨v3, e3⟩ : ∃ z, M1 598 6 = z := ⟨_, rfl⟩
    have b3 : 0 ≤ v3 ∧ v3 ≤ 12 := by rw [← e3]; exact hI_M1 598 6 (by decide)
    refine jr.getf (i := 6) (x := v3) (v := .int (Int32.ofInt (v3))) rfl rfl (by decide) rfl (by decide) rfl rfl e3 rfl ?_
    refine jr.iconst rfl ?_
    refine jr.isub rfl ?_
    refine jr.i2l rfl (by omega) ?_
    refine jr_s rfl rfl (Or.inl rfl) ⟨Nat.le_of_ble_eq_true rfl, Nat.le_of_ble_eq_true rfl⟩ rfl rfl (jc.deep (c_within (by omega) (by omega) (by omega) (fun l27 u27 => ?_) (fun n27 => ?_)) (by decide))
    · refine jr.if_eq rfl rfl (by omega) (fun h => absurd h (by decide)) (fun _ => ?_)
      refine jr.iload_n rfl rfl ?_
      refine jr.i2l rfl (by omega) ?_
      refine jr.lconst (x := 0) rfl (by decide) ?_
      refine jr.aload_n rfl rfl ?_
      refine jr.getf (i := 7) (v := .ref 603) rfl rfl (by decide) rfl (by decide) rfl rfl rfl rfl ?_
      refine jr.iload_n rfl rfl ?_
      obtain ⟨v4, e4⟩ : ∃ z, M1 603 h = z := ⟨_, rfl⟩
      have b4 : 0 ≤ v4 ∧ v4 ≤ 11 := by rw [← e4]; exact (by have q := hI_M1 603 h (by decide); rw [xri_row rfl rfl] at q; exact q)
      refine jr.iald (i := h) (x := v4) rfl (by decide) rfl (by decide) (by omega) (by omega) e4 ?_
      refine jr_s rfl rfl (Or.inl rfl) ⟨Nat.le_of_ble_eq_true rfl, Nat.le_of_ble_eq_true rfl⟩ rfl rfl (jc.deep (r_fields_x hI_M1 hH_M1 hS_M1  (by omega)  (fun r5 z5 w5_0 => ?_)) (by decide))
      refine jr.iconst rfl ?_
      refine jr.isub rfl ?_
      refine jr.i2l rfl (by omega) ?_
      refine jr_s rfl rfl (Or.inl rfl) ⟨Nat.le_of_ble_eq_true rfl, Nat.le_of_ble_eq_true rfl⟩ rfl rfl (jc.deep (c_within (by omega) (by omega) (by omega) (fun l48 u48 => ?_) (fun n48 => ?_)) (by decide))
      · refine jr.if_ne rfl rfl (by omega) (fun _ => ?_) (fun h => absurd (by decide) h)
        refine jr.aload_n rfl rfl ?_
        refine jr.iload_n rfl rfl ?_
        refine jr.aload_n rfl rfl ?_
        refine jr.getf (i := 7) (v := .ref 603) rfl rfl (by decide) rfl (by decide) rfl rfl rfl rfl ?_
        refine jr.iload_n rfl rfl ?_
        refine jr.iald (i := h) (x := v4) rfl (by decide) rfl (by decide) (by omega) (by omega) e4 ?_
        refine jr.aload_n rfl rfl ?_
        refine jr.getf (i := 8) (v := .ref 604) rfl rfl (by decide) rfl (by decide) rfl rfl rfl rfl ?_
        refine jr.iload_n rfl rfl ?_
        obtain ⟨v6, e6⟩ : ∃ z, M1 604 h = z := ⟨_, rfl⟩
        have b6 : 0 ≤ v6 ∧ v6 ≤ 400 := by rw [← e6]; exact (by have q := hI_M1 604 h (by decide); rw [xri_row rfl rfl] at q; exact q)
        refine jr.iald (i := h) (x := v6) rfl (by decide) rfl (by decide) (by omega) (by omega) e6 ?_
        refine jr.aload_n rfl rfl ?_
        refine jr.getf (i := 9) (v := .ref 605) rfl rfl (by decide) rfl (by decide) rfl rfl rfl rfl ?_
        refine jr.iload_n rfl rfl ?_
        obtain ⟨v7, e7⟩ : ∃ z, M1 605 h = z := ⟨_, rfl⟩
        have b7 : 0 ≤ v7 ∧ v7 ≤ 400 := by rw [← e7]; exact (by have q := hI_M1 605 h (by decide); rw [xri_row rfl rfl] at q; exact q)
        refine jr.iald (i := h) (x := v7) rfl (by decide) rfl (by decide) (by omega) (by omega) e7 ?_
        refine jr.iload_n rfl rfl ?_
        refine jr_v rfl rfl (Or.inl rfl) rfl rfl (by decide) rfl ⟨rfl, Nat.le_of_ble_eq_true rfl, Nat.le_of_ble_eq_true rfl⟩ rfl (jc.deep (r_valueOf_x hI_M1 hH_M1 hS_M1  (by omega) (by omega) (by omega) (by omega) (by omega) (by have q := (hH_M1 h).1; rw [e6, e4] at q; exact q) (by omega) (fun r8 z8 w8_0 => ?_)) (by decide))
        exact jr.lreturn rfl rfl (q _ _ hI_M1 hH_M1 hS_M1  (by omega) (Or.inr ⟨by omega, M1 598 6, HQ6.e w1_1, (by have hr := w1_1.2.1 h (by omega) (by omega); have hk : M1 603 h = _ := hr.2.1; rw [e4] at hk; have h2 : M1 604 h = _ := hr.2.2.1; have h3 : M1 605 h = _ := hr.2.2.2; rw [e6] at h2; rw [e7] at h3; refine vA_in ⟨by omega, by omega⟩ hk.symm h2.symm ⟨by omega, by omega⟩ ?_; have hw := w8_0; rw [h3, rf_e (M := M) (fun i => w1_2 601 i (by decide) (by decide) (by decide) (by decide))] at hw; exact hw)⟩) (fun a i f598 f603 f604 f605 => ((w1_2 a i f598 f603 f604 f605).trans rfl)) (fun i g6 g10 g11 g12 => ((w1_3 i g6 g10 g11 g12).trans rfl)))
      · refine jr.if_ne rfl rfl (by omega) (fun h => absurd h (by decide)) (fun _ => ?_)
        refine jr.ldc2 (x := (-1)) rfl rfl (by decide) ?_
        exact jr.lreturn rfl rfl (q _ _ hI_M1 hH_M1 hS_M1  (by omega) (Or.inr ⟨by omega, M1 598 6, HQ6.e w1_1, (by have hr := w1_1.2.1 h (by omega) (by omega); have hk : M1 603 h = _ := hr.2.1; rw [e4] at hk; exact vA_out (Or.inr (by rw [← hk]; omega)))⟩) (fun a i f598 f603 f604 f605 => ((w1_2 a i f598 f603 f604 f605).trans rfl)) (fun i g6 g10 g11 g12 => ((w1_3 i g6 g10 g11 g12).trans rfl)))
    · refine jr.if_eq rfl rfl (by omega) (fun _ => ?_) (fun h => absurd (by decide) h)
      refine jr.ldc2 (x := (-1)) rfl rfl (by decide) ?_
      exact jr.lreturn rfl rfl (q _ _ hI_M1 hH_M1 hS_M1  (by omega) (Or.inr ⟨by omega, M1 598 6, HQ6.e w1_1, (vA_out (Or.inl (by omega)))⟩) (fun a i f598 f603 f604 f605 => ((w1_2 a i f598 f603 f604 f605).trans rfl)) (fun i g6 g10 g11 g12 => ((w1_3 i g6 g10 g11 g12).trans rfl)))
  · refine jr.if_ne rfl rfl (by omega) (fun h => absurd h (by decide)) (fun _ => ?_)
    refine jr.ldc2 (x := (-2)) rfl rfl (by decide) ?_
    exact jr.lreturn rfl rfl (q _ _ hI_M hH_M hS_M  (by omega) (Or.inl ⟨by omega, by omega⟩) (fun a i f598 f603 f604 f605 => rfl) (fun i g6 g10 g11 g12 => rfl))
theorem r_read_x {A : Nat → Option (Nat × (Nat → Int32))} {Q : Option Value → jm → Prop} {M : jm} (hI_M : RI M) (hH_M : RH M) (hS_M : RF M) {x : Int} (h_x : (-2147483648) ≤ x ∧ x ≤ 2147483647) (q : ∀ (r : Int) (M' : jm), RI M' → RH M' → RF M' → (-20) ≤ r ∧ r ≤ 12 → (((x < 0 ∨ 23 < x) ∧ r = -3 ∧ M' = M) ∨ (((0 ≤ x ∧ x ≤ 23) ∧ M 600 x = -1) ∧ (M' 598 13 = 2 ∧ M' 598 14 = 0 ∧ M' 598 15 = -1 ∧ M' 598 16 = -1) ∧ r = -12) ∨ (((0 ≤ x ∧ x ≤ 23) ∧ M 600 x ≠ -1) ∧ ∃ C : Int, HE (rf M x) (M 600 x) C ∧ RDF (rf M x) (M 600 x) C (M' 598 13) (M' 598 14) (M' 598 15) (M' 598 16) r)) → (∀ (a : Nat) (i : Int), a ≠ 598 → a ≠ 603 → a ≠ 604 → a ≠ 605 → M' a i = M a i) → (∀ (i : Int), i ≠ 6 → i ≠ 10 → i ≠ 11 → i ≠ 12 → i ≠ 13 → i ≠ 14 → i ≠ 15 → i ≠ 16 → M' 598 i = M 598 i) → Q (some (.int (Int32.ofInt r))) M') : jc A 5 267 [.ref (598), .int (Int32.ofInt (x))] M Q := by
  refine jc_of (m := xm_267) rfl (Nat.le_of_ble_eq_true rfl) rfl ?_
  refine jr.iload_n rfl rfl ?_
  refine jr_s rfl rfl (Or.inl rfl) ⟨Nat.le_of_ble_eq_true rfl, Nat.le_of_ble_eq_true rfl⟩ rfl rfl (jc.deep (c_isPN (by omega) (fun l1 u1 => ?_) (fun n1 => ?_)) (by decide))
  · refine jr.if_ne rfl rfl (by omega) (fun _ => ?_) (fun h => absurd (by decide) h)
    refine jr.aload_n rfl rfl ?_
    refine jr.getf (i := 3) (v := .ref 600) rfl rfl (by decide) rfl (by decide) rfl rfl rfl rfl ?_
    refine jr.iload_n rfl rfl ?_
    obtain ⟨v1, e1⟩ : ∃ z, M 600 x = z := ⟨_, rfl⟩
    have b1 : (-1) ≤ v1 ∧ v1 ≤ 400 := by rw [← e1]; exact (by have q := hI_M 600 x (by decide); rw [xri_row rfl rfl] at q; exact q)
    refine jr.iald (i := x) (x := v1) rfl (by decide) rfl (by decide) (by omega) (by omega) e1 ?_
    refine jr.iconst rfl ?_
    refine jr.icmp_ne rfl rfl (by omega) (by omega) (fun h17 => ?_) (fun h17 => ?_)
    · have sx17 : (0 : Int) ≤ v1 := by omega
      refine jr.aload_n rfl rfl ?_
      refine jr.iload_n rfl rfl ?_
      refine jr_v rfl rfl (Or.inl rfl) rfl rfl (by decide) rfl ⟨rfl, Nat.le_of_ble_eq_true rfl, Nat.le_of_ble_eq_true rfl⟩ rfl (jc.deep (r_look_x hI_M hH_M hS_M  (by omega) (by rw [e1]; omega) (fun M2 hI_M2 hH_M2 hS_M2  w2_0 w2_1 w2_2 w2_3 => ?_)) (by decide))
      refine jr.aload_n rfl rfl ?_
      refine jr.aload_n rfl rfl ?_
      obtain ⟨v3, e3⟩ : ∃ z, M2 598 10 = z := ⟨_, rfl⟩
      have b3 : 0 ≤ v3 ∧ v3 ≤ 6 := by rw [← e3]; exact hI_M2 598 10 (by decide)
      refine jr.getf (i := 10) (x := v3) (v := .int (Int32.ofInt (v3))) rfl rfl (by decide) rfl (by decide) rfl rfl e3 rfl ?_
      refine jr.putf (i := 13) (x := v3) rfl rfl (by decide) rfl (by decide) rfl rfl rfl rfl rfl ?_
      refine jr.aload_n rfl rfl ?_
      refine jr.aload_n rfl rfl ?_
      obtain ⟨v4, e4⟩ : ∃ z, M2 598 6 = z := ⟨_, rfl⟩
      have b4 : 0 ≤ v4 ∧ v4 ≤ 12 := by rw [← e4]; exact hI_M2 598 6 (by decide)
      refine jr.getf (i := 6) (x := v4) (v := .int (Int32.ofInt (v4))) rfl rfl (by decide) rfl (by decide) rfl rfl ((ju_i _ _ (by decide)).trans e4) rfl ?_
      refine jr.putf (i := 14) (x := v4) rfl rfl (by decide) rfl (by decide) rfl rfl rfl rfl rfl ?_
      refine jr.aload_n rfl rfl ?_
      refine jr.aload_n rfl rfl ?_
      refine jr.getf (i := 10) (x := v3) (v := .int (Int32.ofInt (v3))) rfl rfl (by decide) rfl (by decide) rfl rfl ((ju_i _ _ (by decide)).trans ((ju_i _ _ (by decide)).trans e3)) rfl ?_
      refine jr.if_ne rfl rfl (by omega) (fun h61 => ?_) (fun h61 => ?_)
      · have sx61 : (1 : Int) ≤ v3 := by omega
        refine jr.aload_n rfl rfl ?_
        obtain ⟨v5, e5⟩ : ∃ z, M2 598 11 = z := ⟨_, rfl⟩
        have b5 : (-1) ≤ v5 ∧ v5 ≤ 400 := by rw [← e5]; exact hI_M2 598 11 (by decide)
        refine jr.getf (i := 11) (x := v5) (v := .int (Int32.ofInt (v5))) rfl rfl (by decide) rfl (by decide) rfl rfl ((ju_i _ _ (by decide)).trans ((ju_i _ _ (by decide)).trans e5)) rfl ?_
        refine jr.putf (i := 15) (x := v5) rfl rfl (by decide) rfl (by decide) rfl rfl rfl rfl rfl ?_
        refine jr.aload_n rfl rfl ?_
        refine jr.aload_n rfl rfl ?_
        refine jr.getf (i := 10) (x := v3) (v := .int (Int32.ofInt (v3))) rfl rfl (by decide) rfl (by decide) rfl rfl ((ju_i _ _ (by decide)).trans ((ju_i _ _ (by decide)).trans ((ju_i _ _ (by decide)).trans e3))) rfl ?_
        refine jr.if_ne rfl rfl (by omega) (fun h80 => ?_) (fun h80 => ?_)
        · refine jr.aload_n rfl rfl ?_
          obtain ⟨v6, e6⟩ : ∃ z, M2 598 12 = z := ⟨_, rfl⟩
          have b6 : (-1) ≤ v6 ∧ v6 ≤ 11 := by rw [← e6]; exact hI_M2 598 12 (by decide)
          refine jr.getf (i := 12) (x := v6) (v := .int (Int32.ofInt (v6))) rfl rfl (by decide) rfl (by decide) rfl rfl ((ju_i _ _ (by decide)).trans ((ju_i _ _ (by decide)).trans ((ju_i _ _ (by decide)).trans e6))) rfl ?_
          refine jr.putf (i := 16) (x := v6) rfl rfl (by decide) rfl (by decide) rfl rfl rfl rfl rfl ?_
          refine jr.aload_n rfl rfl ?_
          refine jr.getf (i := 10) (x := v3) (v := .int (Int32.ofInt (v3))) rfl rfl (by decide) rfl (by decide) rfl rfl ((ju_i _ _ (by decide)).trans ((ju_i _ _ (by decide)).trans ((ju_i _ _ (by decide)).trans ((ju_i _ _ (by decide)).trans e3)))) rfl ?_
          refine jr.if_ne rfl rfl (by omega) (fun h98 => ?_) (fun h98 => ?_)
          · refine jr.bipush rfl (by decide) ?_
            refine jr.aload_n rfl rfl ?_
            refine jr.getf (i := 10) (x := v3) (v := .int (Int32.ofInt (v3))) rfl rfl (by decide) rfl (by decide) rfl rfl ((ju_i _ _ (by decide)).trans ((ju_i _ _ (by decide)).trans ((ju_i _ _ (by decide)).trans ((ju_i _ _ (by decide)).trans e3)))) rfl ?_
            refine jr.isub rfl ?_
            exact jr.ireturn rfl rfl rfl (q _ _ (RI.u (RI.u (RI.u (RI.u hI_M2 (a := 598) (i := 13) (show (-1 : Int) ≤ _ ∧ _ ≤ (6 : Int) from by omega)) (a := 598) (i := 14) (show (-1 : Int) ≤ _ ∧ _ ≤ (12 : Int) from by omega)) (a := 598) (i := 15) (show (-1 : Int) ≤ _ ∧ _ ≤ (400 : Int) from by omega)) (a := 598) (i := 16) (show (-1 : Int) ≤ _ ∧ _ ≤ (11 : Int) from by omega)) (RH.o (RH.o (RH.o (RH.o hH_M2 (by decide) (by decide) (by decide)) (by decide) (by decide) (by decide)) (by decide) (by decide) (by decide)) (by decide) (by decide) (by decide)) (RF.o (RF.o (RF.o (RF.o hS_M2 (by decide) (by decide)) (by decide) (by decide)) (by decide) (by decide)) (by decide) (by decide))  (by omega) (by have q0 : (ju (ju (ju (ju M2 598 13 v3) 598 14 v4) 598 15 v5) 598 16 v6) 598 13 = v3 := ((ju_i _ _ (by decide)).trans ((ju_i _ _ (by decide)).trans ((ju_i _ _ (by decide)).trans (ju_same _ _ _ _)))); have q1 : (ju (ju (ju (ju M2 598 13 v3) 598 14 v4) 598 15 v5) 598 16 v6) 598 14 = v4 := ((ju_i _ _ (by decide)).trans ((ju_i _ _ (by decide)).trans (ju_same _ _ _ _))); have q2 : (ju (ju (ju (ju M2 598 13 v3) 598 14 v4) 598 15 v5) 598 16 v6) 598 15 = v5 := ((ju_i _ _ (by decide)).trans (ju_same _ _ _ _)); have q3 : (ju (ju (ju (ju M2 598 13 v3) 598 14 v4) 598 15 v5) 598 16 v6) 598 16 = v6 := (ju_same _ _ _ _); have r6 : M2 598 6 = v4 := e4; have r10 : M2 598 10 = v3 := e3; have r11 : M2 598 11 = v5 := e5; have r12 : M2 598 12 = v6 := e6; have h9 := w2_1; exact Or.inr (Or.inr ⟨by omega, M2 598 6, HQ6.e h9, ⟨by omega, Or.elim h9.2.2 (fun u => Or.inl ⟨u.1, by omega, by omega, by omega, by omega⟩) (fun u => Or.inr ⟨u.1, u.2.1, by omega, by omega, by omega, by omega⟩)⟩⟩)) (fun a i f598 f603 f604 f605 => ((ju_c _ _ f598).trans ((ju_c _ _ f598).trans ((ju_c _ _ f598).trans ((ju_c _ _ f598).trans ((w2_2 a i f598 f603 f604 f605).trans rfl)))))) (fun i g6 g10 g11 g12 g13 g14 g15 g16 => ((ju_i _ _ g16).trans ((ju_i _ _ g15).trans ((ju_i _ _ g14).trans ((ju_i _ _ g13).trans ((w2_3 i g6 g10 g11 g12).trans rfl)))))))
          · exact absurd (by omega) h98
        · exact absurd (by omega) h80
      · refine jr.iconst rfl ?_
        refine jr.goto rfl rfl ?_
        refine jr.putf (i := 15) (x := (-1)) rfl rfl (by decide) rfl (by decide) rfl rfl rfl rfl rfl ?_
        refine jr.aload_n rfl rfl ?_
        refine jr.aload_n rfl rfl ?_
        refine jr.getf (i := 10) (x := v3) (v := .int (Int32.ofInt (v3))) rfl rfl (by decide) rfl (by decide) rfl rfl ((ju_i _ _ (by decide)).trans ((ju_i _ _ (by decide)).trans ((ju_i _ _ (by decide)).trans e3))) rfl ?_
        refine jr.if_ne rfl rfl (by omega) (fun h80 => ?_) (fun h80 => ?_)
        · exact absurd h80 (by omega)
        · refine jr.iconst rfl ?_
          refine jr.goto rfl rfl ?_
          refine jr.putf (i := 16) (x := (-1)) rfl rfl (by decide) rfl (by decide) rfl rfl rfl rfl rfl ?_
          refine jr.aload_n rfl rfl ?_
          refine jr.getf (i := 10) (x := v3) (v := .int (Int32.ofInt (v3))) rfl rfl (by decide) rfl (by decide) rfl rfl ((ju_i _ _ (by decide)).trans ((ju_i _ _ (by decide)).trans ((ju_i _ _ (by decide)).trans ((ju_i _ _ (by decide)).trans e3)))) rfl ?_
          refine jr.if_ne rfl rfl (by omega) (fun h98 => ?_) (fun h98 => ?_)
          · exact absurd h98 (by omega)
          · refine jr.aload_n rfl rfl ?_
            refine jr.getf (i := 6) (x := v4) (v := .int (Int32.ofInt (v4))) rfl rfl (by decide) rfl (by decide) rfl rfl ((ju_i _ _ (by decide)).trans ((ju_i _ _ (by decide)).trans ((ju_i _ _ (by decide)).trans ((ju_i _ _ (by decide)).trans e4)))) rfl ?_
            refine jr.goto rfl rfl ?_
            obtain ⟨v7, e7⟩ : ∃ z, M2 598 11 = z := ⟨_, rfl⟩
            have b7 : (-1) ≤ v7 ∧ v7 ≤ 400 := by rw [← e7]; exact hI_M2 598 11 (by decide)
            obtain ⟨v8, e8⟩ : ∃ z, M2 598 12 = z := ⟨_, rfl⟩
            have b8 : (-1) ≤ v8 ∧ v8 ≤ 11 := by rw [← e8]; exact hI_M2 598 12 (by decide)
            exact jr.ireturn rfl rfl rfl (q _ _ (RI.u (RI.u (RI.u (RI.u hI_M2 (a := 598) (i := 13) (show (-1 : Int) ≤ _ ∧ _ ≤ (6 : Int) from by omega)) (a := 598) (i := 14) (show (-1 : Int) ≤ _ ∧ _ ≤ (12 : Int) from by omega)) (a := 598) (i := 15) (show (-1 : Int) ≤ _ ∧ _ ≤ (400 : Int) from by omega)) (a := 598) (i := 16) (show (-1 : Int) ≤ _ ∧ _ ≤ (11 : Int) from by omega)) (RH.o (RH.o (RH.o (RH.o hH_M2 (by decide) (by decide) (by decide)) (by decide) (by decide) (by decide)) (by decide) (by decide) (by decide)) (by decide) (by decide) (by decide)) (RF.o (RF.o (RF.o (RF.o hS_M2 (by decide) (by decide)) (by decide) (by decide)) (by decide) (by decide)) (by decide) (by decide))  (by omega) (by have q0 : (ju (ju (ju (ju M2 598 13 v3) 598 14 v4) 598 15 (-1)) 598 16 (-1)) 598 13 = v3 := ((ju_i _ _ (by decide)).trans ((ju_i _ _ (by decide)).trans ((ju_i _ _ (by decide)).trans (ju_same _ _ _ _)))); have q1 : (ju (ju (ju (ju M2 598 13 v3) 598 14 v4) 598 15 (-1)) 598 16 (-1)) 598 14 = v4 := ((ju_i _ _ (by decide)).trans ((ju_i _ _ (by decide)).trans (ju_same _ _ _ _))); have q2 : (ju (ju (ju (ju M2 598 13 v3) 598 14 v4) 598 15 (-1)) 598 16 (-1)) 598 15 = -1 := ((ju_i _ _ (by decide)).trans (ju_same _ _ _ _)); have q3 : (ju (ju (ju (ju M2 598 13 v3) 598 14 v4) 598 15 (-1)) 598 16 (-1)) 598 16 = -1 := (ju_same _ _ _ _); have r6 : M2 598 6 = v4 := e4; have r10 : M2 598 10 = v3 := e3; have r11 : M2 598 11 = v7 := e7; have r12 : M2 598 12 = v8 := e8; have h9 := w2_1; exact Or.inr (Or.inr ⟨by omega, M2 598 6, HQ6.e h9, ⟨by omega, Or.elim h9.2.2 (fun u => Or.inl ⟨u.1, by omega, by omega, by omega, by omega⟩) (fun u => Or.inr ⟨u.1, u.2.1, by omega, by omega, by omega, by omega⟩)⟩⟩)) (fun a i f598 f603 f604 f605 => ((ju_c _ _ f598).trans ((ju_c _ _ f598).trans ((ju_c _ _ f598).trans ((ju_c _ _ f598).trans ((w2_2 a i f598 f603 f604 f605).trans rfl)))))) (fun i g6 g10 g11 g12 g13 g14 g15 g16 => ((ju_i _ _ g16).trans ((ju_i _ _ g15).trans ((ju_i _ _ g14).trans ((ju_i _ _ g13).trans ((w2_3 i g6 g10 g11 g12).trans rfl)))))))
    · refine jr.aload_n rfl rfl ?_
      refine jr.iconst rfl ?_
      refine jr.putf (i := 6) (x := 0) rfl rfl (by decide) rfl (by decide) rfl rfl rfl rfl rfl ?_
      refine jr.aload_n rfl rfl ?_
      refine jr.iconst rfl ?_
      refine jr.iconst rfl ?_
      refine jr.iconst rfl ?_
      refine jr_v rfl rfl (Or.inl rfl) rfl rfl (by decide) rfl ⟨rfl, Nat.le_of_ble_eq_true rfl, Nat.le_of_ble_eq_true rfl⟩ rfl (jc.deep (r_finds_x (RI.u hI_M (a := 598) (i := 6) (show (0 : Int) ≤ _ ∧ _ ≤ (12 : Int) from by omega)) (RH.o hH_M (by decide) (by decide) (by decide)) (RF.o hS_M (by decide) (by decide))  (by omega) (by omega) (by omega)  (fun M9 hI_M9 hH_M9 hS_M9  w9_0 w9_1 w9_2 => ?_)) (by decide))
      refine jr.goto rfl rfl ?_
      refine jr.aload_n rfl rfl ?_
      refine jr.aload_n rfl rfl ?_
      obtain ⟨v10, e10⟩ : ∃ z, M9 598 10 = z := ⟨_, rfl⟩
      have b10 : 0 ≤ v10 ∧ v10 ≤ 6 := by rw [← e10]; exact hI_M9 598 10 (by decide)
      refine jr.getf (i := 10) (x := v10) (v := .int (Int32.ofInt (v10))) rfl rfl (by decide) rfl (by decide) rfl rfl e10 rfl ?_
      refine jr.putf (i := 13) (x := v10) rfl rfl (by decide) rfl (by decide) rfl rfl rfl rfl rfl ?_
      refine jr.aload_n rfl rfl ?_
      refine jr.aload_n rfl rfl ?_
      have e11 : M9 598 6 = 0 := ((w9_2 6 (by decide) (by decide) (by decide)).trans (ju_same _ _ _ _))
      refine jr.getf (i := 6) (x := 0) (v := .int (Int32.ofInt (0))) rfl rfl (by decide) rfl (by decide) rfl rfl ((ju_i _ _ (by decide)).trans e11) rfl ?_
      refine jr.putf (i := 14) (x := 0) rfl rfl (by decide) rfl (by decide) rfl rfl rfl rfl rfl ?_
      refine jr.aload_n rfl rfl ?_
      refine jr.aload_n rfl rfl ?_
      refine jr.getf (i := 10) (x := v10) (v := .int (Int32.ofInt (v10))) rfl rfl (by decide) rfl (by decide) rfl rfl ((ju_i _ _ (by decide)).trans ((ju_i _ _ (by decide)).trans e10)) rfl ?_
      refine jr.if_ne rfl rfl (by omega) (fun h61 => ?_) (fun h61 => ?_)
      · have sx61 : (1 : Int) ≤ v10 := by omega
        refine jr.aload_n rfl rfl ?_
        obtain ⟨v12, e12⟩ : ∃ z, M9 598 11 = z := ⟨_, rfl⟩
        have b12 : (-1) ≤ v12 ∧ v12 ≤ 400 := by rw [← e12]; exact hI_M9 598 11 (by decide)
        refine jr.getf (i := 11) (x := v12) (v := .int (Int32.ofInt (v12))) rfl rfl (by decide) rfl (by decide) rfl rfl ((ju_i _ _ (by decide)).trans ((ju_i _ _ (by decide)).trans e12)) rfl ?_
        refine jr.putf (i := 15) (x := v12) rfl rfl (by decide) rfl (by decide) rfl rfl rfl rfl rfl ?_
        refine jr.aload_n rfl rfl ?_
        refine jr.aload_n rfl rfl ?_
        refine jr.getf (i := 10) (x := v10) (v := .int (Int32.ofInt (v10))) rfl rfl (by decide) rfl (by decide) rfl rfl ((ju_i _ _ (by decide)).trans ((ju_i _ _ (by decide)).trans ((ju_i _ _ (by decide)).trans e10))) rfl ?_
        refine jr.if_ne rfl rfl (by omega) (fun h80 => ?_) (fun h80 => ?_)
        · refine jr.aload_n rfl rfl ?_
          obtain ⟨v13, e13⟩ : ∃ z, M9 598 12 = z := ⟨_, rfl⟩
          have b13 : (-1) ≤ v13 ∧ v13 ≤ 11 := by rw [← e13]; exact hI_M9 598 12 (by decide)
          refine jr.getf (i := 12) (x := v13) (v := .int (Int32.ofInt (v13))) rfl rfl (by decide) rfl (by decide) rfl rfl ((ju_i _ _ (by decide)).trans ((ju_i _ _ (by decide)).trans ((ju_i _ _ (by decide)).trans e13))) rfl ?_
          refine jr.putf (i := 16) (x := v13) rfl rfl (by decide) rfl (by decide) rfl rfl rfl rfl rfl ?_
          refine jr.aload_n rfl rfl ?_
          refine jr.getf (i := 10) (x := v10) (v := .int (Int32.ofInt (v10))) rfl rfl (by decide) rfl (by decide) rfl rfl ((ju_i _ _ (by decide)).trans ((ju_i _ _ (by decide)).trans ((ju_i _ _ (by decide)).trans ((ju_i _ _ (by decide)).trans e10)))) rfl ?_
          refine jr.if_ne rfl rfl (by omega) (fun h98 => ?_) (fun h98 => ?_)
          · refine jr.bipush rfl (by decide) ?_
            refine jr.aload_n rfl rfl ?_
            refine jr.getf (i := 10) (x := v10) (v := .int (Int32.ofInt (v10))) rfl rfl (by decide) rfl (by decide) rfl rfl ((ju_i _ _ (by decide)).trans ((ju_i _ _ (by decide)).trans ((ju_i _ _ (by decide)).trans ((ju_i _ _ (by decide)).trans e10)))) rfl ?_
            refine jr.isub rfl ?_
            exact jr.ireturn rfl rfl rfl (q _ _ (RI.u (RI.u (RI.u (RI.u hI_M9 (a := 598) (i := 13) (show (-1 : Int) ≤ _ ∧ _ ≤ (6 : Int) from by omega)) (a := 598) (i := 14) (show (-1 : Int) ≤ _ ∧ _ ≤ (12 : Int) from by omega)) (a := 598) (i := 15) (show (-1 : Int) ≤ _ ∧ _ ≤ (400 : Int) from by omega)) (a := 598) (i := 16) (show (-1 : Int) ≤ _ ∧ _ ≤ (11 : Int) from by omega)) (RH.o (RH.o (RH.o (RH.o hH_M9 (by decide) (by decide) (by decide)) (by decide) (by decide) (by decide)) (by decide) (by decide) (by decide)) (by decide) (by decide) (by decide)) (RF.o (RF.o (RF.o (RF.o hS_M9 (by decide) (by decide)) (by decide) (by decide)) (by decide) (by decide)) (by decide) (by decide))  (by omega) (by have q0 : (ju (ju (ju (ju M9 598 13 v10) 598 14 0) 598 15 v12) 598 16 v13) 598 13 = v10 := ((ju_i _ _ (by decide)).trans ((ju_i _ _ (by decide)).trans ((ju_i _ _ (by decide)).trans (ju_same _ _ _ _)))); have q1 : (ju (ju (ju (ju M9 598 13 v10) 598 14 0) 598 15 v12) 598 16 v13) 598 14 = 0 := ((ju_i _ _ (by decide)).trans ((ju_i _ _ (by decide)).trans (ju_same _ _ _ _))); have q2 : (ju (ju (ju (ju M9 598 13 v10) 598 14 0) 598 15 v12) 598 16 v13) 598 15 = v12 := ((ju_i _ _ (by decide)).trans (ju_same _ _ _ _)); have q3 : (ju (ju (ju (ju M9 598 13 v10) 598 14 0) 598 15 v12) 598 16 v13) 598 16 = v13 := (ju_same _ _ _ _); have r6 : M9 598 6 = 0 := e11; have r10 : M9 598 10 = v10 := e10; have r11 : M9 598 11 = v12 := e12; have r12 : M9 598 12 = v13 := e13; have h9 := w9_0; exact Or.inr (Or.inl ⟨by omega, by omega, by omega⟩)) (fun a i f598 f603 f604 f605 => ((ju_c _ _ f598).trans ((ju_c _ _ f598).trans ((ju_c _ _ f598).trans ((ju_c _ _ f598).trans ((w9_1 a i f598).trans ((ju_c _ _ f598).trans rfl))))))) (fun i g6 g10 g11 g12 g13 g14 g15 g16 => ((ju_i _ _ g16).trans ((ju_i _ _ g15).trans ((ju_i _ _ g14).trans ((ju_i _ _ g13).trans ((w9_2 i g10 g11 g12).trans ((ju_i _ _ g6).trans rfl))))))))
          · exact absurd (by omega) h98
        · exact absurd (by omega) h80
      · refine jr.iconst rfl ?_
        refine jr.goto rfl rfl ?_
        refine jr.putf (i := 15) (x := (-1)) rfl rfl (by decide) rfl (by decide) rfl rfl rfl rfl rfl ?_
        refine jr.aload_n rfl rfl ?_
        refine jr.aload_n rfl rfl ?_
        refine jr.getf (i := 10) (x := v10) (v := .int (Int32.ofInt (v10))) rfl rfl (by decide) rfl (by decide) rfl rfl ((ju_i _ _ (by decide)).trans ((ju_i _ _ (by decide)).trans ((ju_i _ _ (by decide)).trans e10))) rfl ?_
        refine jr.if_ne rfl rfl (by omega) (fun h80 => ?_) (fun h80 => ?_)
        · exact absurd h80 (by omega)
        · refine jr.iconst rfl ?_
          refine jr.goto rfl rfl ?_
          refine jr.putf (i := 16) (x := (-1)) rfl rfl (by decide) rfl (by decide) rfl rfl rfl rfl rfl ?_
          refine jr.aload_n rfl rfl ?_
          refine jr.getf (i := 10) (x := v10) (v := .int (Int32.ofInt (v10))) rfl rfl (by decide) rfl (by decide) rfl rfl ((ju_i _ _ (by decide)).trans ((ju_i _ _ (by decide)).trans ((ju_i _ _ (by decide)).trans ((ju_i _ _ (by decide)).trans e10)))) rfl ?_
          refine jr.if_ne rfl rfl (by omega) (fun h98 => ?_) (fun h98 => ?_)
          · exact absurd h98 (by omega)
          · refine jr.aload_n rfl rfl ?_
            refine jr.getf (i := 6) (x := 0) (v := .int (Int32.ofInt (0))) rfl rfl (by decide) rfl (by decide) rfl rfl ((ju_i _ _ (by decide)).trans ((ju_i _ _ (by decide)).trans ((ju_i _ _ (by decide)).trans ((ju_i _ _ (by decide)).trans e11)))) rfl ?_
            refine jr.goto rfl rfl ?_
            obtain ⟨v14, e14⟩ : ∃ z, M9 598 11 = z := ⟨_, rfl⟩
            have b14 : (-1) ≤ v14 ∧ v14 ≤ 400 := by rw [← e14]; exact hI_M9 598 11 (by decide)
            obtain ⟨v15, e15⟩ : ∃ z, M9 598 12 = z := ⟨_, rfl⟩
            have b15 : (-1) ≤ v15 ∧ v15 ≤ 11 := by rw [← e15]; exact hI_M9 598 12 (by decide)
            exact jr.ireturn rfl rfl rfl (q _ _ (RI.u (RI.u (RI.u (RI.u hI_M9 (a := 598) (i := 13) (show (-1 : Int) ≤ _ ∧ _ ≤ (6 : Int) from by omega)) (a := 598) (i := 14) (show (-1 : Int) ≤ _ ∧ _ ≤ (12 : Int) from by omega)) (a := 598) (i := 15) (show (-1 : Int) ≤ _ ∧ _ ≤ (400 : Int) from by omega)) (a := 598) (i := 16) (show (-1 : Int) ≤ _ ∧ _ ≤ (11 : Int) from by omega)) (RH.o (RH.o (RH.o (RH.o hH_M9 (by decide) (by decide) (by decide)) (by decide) (by decide) (by decide)) (by decide) (by decide) (by decide)) (by decide) (by decide) (by decide)) (RF.o (RF.o (RF.o (RF.o hS_M9 (by decide) (by decide)) (by decide) (by decide)) (by decide) (by decide)) (by decide) (by decide))  (by omega) (by have q0 : (ju (ju (ju (ju M9 598 13 v10) 598 14 0) 598 15 (-1)) 598 16 (-1)) 598 13 = v10 := ((ju_i _ _ (by decide)).trans ((ju_i _ _ (by decide)).trans ((ju_i _ _ (by decide)).trans (ju_same _ _ _ _)))); have q1 : (ju (ju (ju (ju M9 598 13 v10) 598 14 0) 598 15 (-1)) 598 16 (-1)) 598 14 = 0 := ((ju_i _ _ (by decide)).trans ((ju_i _ _ (by decide)).trans (ju_same _ _ _ _))); have q2 : (ju (ju (ju (ju M9 598 13 v10) 598 14 0) 598 15 (-1)) 598 16 (-1)) 598 15 = -1 := ((ju_i _ _ (by decide)).trans (ju_same _ _ _ _)); have q3 : (ju (ju (ju (ju M9 598 13 v10) 598 14 0) 598 15 (-1)) 598 16 (-1)) 598 16 = -1 := (ju_same _ _ _ _); have r6 : M9 598 6 = 0 := e11; have r10 : M9 598 10 = v10 := e10; have r11 : M9 598 11 = v14 := e14; have r12 : M9 598 12 = v15 := e15; have h9 := w9_0; exact Or.inr (Or.inl ⟨by omega, by omega, by omega⟩)) (fun a i f598 f603 f604 f605 => ((ju_c _ _ f598).trans ((ju_c _ _ f598).trans ((ju_c _ _ f598).trans ((ju_c _ _ f598).trans ((w9_1 a i f598).trans ((ju_c _ _ f598).trans rfl))))))) (fun i g6 g10 g11 g12 g13 g14 g15 g16 => ((ju_i _ _ g16).trans ((ju_i _ _ g15).trans ((ju_i _ _ g14).trans ((ju_i _ _ g13).trans ((w9_2 i g10 g11 g12).trans ((ju_i _ _ g6).trans rfl))))))))
  · refine jr.if_ne rfl rfl (by omega) (fun h => absurd h (by decide)) (fun _ => ?_)
    refine jr.bipush rfl (by decide) ?_
    exact jr.ireturn rfl rfl rfl (q _ _ hI_M hH_M hS_M  (by omega) (Or.inl ⟨by omega, by omega, rfl⟩) (fun a i f598 f603 f604 f605 => rfl) (fun i g6 g10 g11 g12 g13 g14 g15 g16 => rfl))
theorem r_finding_x {A : Nat → Option (Nat × (Nat → Int32))} {Q : Option Value → jm → Prop} {M : jm} (hI_M : RI M) (hH_M : RH M) (hS_M : RF M) {w : Int} (h_w : (-2147483648) ≤ w ∧ w ≤ 2147483647) (q : ∀ (r : Int) (M' : jm), RI M' → RH M' → RF M' → (-3) ≤ r ∧ r ≤ 400 → ((w = 0 ∧ ((M 598 13 = -1 ∧ r = 0) ∨ (M 598 13 ≠ -1 ∧ r = M 598 13))) ∨ (w = 1 ∧ r = M 598 14) ∨ (w = 2 ∧ r = M 598 15) ∨ (w = 3 ∧ r = M 598 16) ∨ ((w < 0 ∨ 3 < w) ∧ r = -3)) → M' = M → (∀ (a : Nat) (i : Int), a ≠ 598 → M' a i = M a i) → (∀ (i : Int), i ≠ 1 → M' 598 i = M 598 i) → Q (some (.int (Int32.ofInt r))) M') : jc A 1 268 [.ref (598), .int (Int32.ofInt (w))] M Q := by
  refine jc_of (m := xm_268) rfl (Nat.le_of_ble_eq_true rfl) rfl ?_
  refine jr.iload_n rfl rfl ?_
  rcases (show w = 0 ∨ w = 1 ∨ w = 2 ∨ (w ≠ 0 ∧ w ≠ 1 ∧ w ≠ 2) by omega) with h1 | h1 | h1 | h1
  · refine jr.tsw_k 0 rfl h1 rfl ?_
    refine jr.aload_n rfl rfl ?_
    obtain ⟨v1, e1⟩ : ∃ z, M 598 13 = z := ⟨_, rfl⟩
    have b1 : (-1) ≤ v1 ∧ v1 ≤ 6 := by rw [← e1]; exact hI_M 598 13 (by decide)
    refine jr.getf (i := 13) (x := v1) (v := .int (Int32.ofInt (v1))) rfl rfl (by decide) rfl (by decide) rfl rfl e1 rfl ?_
    refine jr.iconst rfl ?_
    refine jr.icmp_ne rfl rfl (by omega) (by omega) (fun h33 => ?_) (fun h33 => ?_)
    · have sx33 : (0 : Int) ≤ v1 := by omega
      refine jr.aload_n rfl rfl ?_
      refine jr.getf (i := 13) (x := v1) (v := .int (Int32.ofInt (v1))) rfl rfl (by decide) rfl (by decide) rfl rfl e1 rfl ?_
      exact jr.ireturn rfl rfl rfl (q _ _ hI_M hH_M hS_M  (by omega) (by omega) rfl (fun a i f598 => rfl) (fun i g1 => rfl))
    · refine jr.iconst rfl ?_
      refine jr.goto rfl rfl ?_
      exact jr.ireturn rfl rfl rfl (q _ _ hI_M hH_M hS_M  (by omega) (by omega) rfl (fun a i f598 => rfl) (fun i g1 => rfl))
  · refine jr.tsw_k 1 rfl h1 rfl ?_
    refine jr.aload_n rfl rfl ?_
    obtain ⟨v2, e2⟩ : ∃ z, M 598 14 = z := ⟨_, rfl⟩
    have b2 : (-1) ≤ v2 ∧ v2 ≤ 12 := by rw [← e2]; exact hI_M 598 14 (by decide)
    refine jr.getf (i := 14) (x := v2) (v := .int (Int32.ofInt (v2))) rfl rfl (by decide) rfl (by decide) rfl rfl e2 rfl ?_
    exact jr.ireturn rfl rfl rfl (q _ _ hI_M hH_M hS_M  (by omega) (by omega) rfl (fun a i f598 => rfl) (fun i g1 => rfl))
  · refine jr.tsw_k 2 rfl h1 rfl ?_
    refine jr.aload_n rfl rfl ?_
    obtain ⟨v3, e3⟩ : ∃ z, M 598 15 = z := ⟨_, rfl⟩
    have b3 : (-1) ≤ v3 ∧ v3 ≤ 400 := by rw [← e3]; exact hI_M 598 15 (by decide)
    refine jr.getf (i := 15) (x := v3) (v := .int (Int32.ofInt (v3))) rfl rfl (by decide) rfl (by decide) rfl rfl e3 rfl ?_
    exact jr.ireturn rfl rfl rfl (q _ _ hI_M hH_M hS_M  (by omega) (by omega) rfl (fun a i f598 => rfl) (fun i g1 => rfl))
  · refine jr.tsw_d rfl (by omega) (by omega) rfl ?_
    refine jr.iload_n rfl rfl ?_
    refine jr.iconst rfl ?_
    refine jr.icmp_ne rfl rfl (by omega) (by omega) (fun h57 => ?_) (fun h57 => ?_)
    · refine jr.bipush rfl (by decide) ?_
      exact jr.ireturn rfl rfl rfl (q _ _ hI_M hH_M hS_M  (by omega) (by omega) rfl (fun a i f598 => rfl) (fun i g1 => rfl))
    · refine jr.aload_n rfl rfl ?_
      obtain ⟨v4, e4⟩ : ∃ z, M 598 16 = z := ⟨_, rfl⟩
      have b4 : (-1) ≤ v4 ∧ v4 ≤ 11 := by rw [← e4]; exact hI_M 598 16 (by decide)
      refine jr.getf (i := 16) (x := v4) (v := .int (Int32.ofInt (v4))) rfl rfl (by decide) rfl (by decide) rfl rfl e4 rfl ?_
      refine jr.goto rfl rfl ?_
      exact jr.ireturn rfl rfl rfl (q _ _ hI_M hH_M hS_M  (by omega) (by omega) rfl (fun a i f598 => rfl) (fun i g1 => rfl))
end
section
/-! ===== the reference: carried, sums, repair ===== -/
theorem hsN_k {f : Int → Int} {n k a z : Int} (h : 4 ≤ hsN f n k a z ∧ hsN f n k a z ≤ 9) : 2 ≤ k ∧ k ≤ 6 := by
  unfold hsN byK byN byQ at h
  (repeat' split at h) <;> omega
theorem hX_n (f : Int → Int) (N : Int) : ∀ n : Nat, 4 ≤ hX f N (n : Int) ∧ hX f N (n : Int) ≤ 9 → nxD f N n ≠ -1 := by
  intro n
  induction n with
  | zero => intro h; have : hX f N ((0 : Nat) : Int) = 0 := rfl; omega
  | succ n ih =>
    intro h
    have s := (hst_s (f := f) (N := N) (i := (n : Int)) (by omega)).1
    rw [show ((n + 1 : Nat) : Int) = (n : Int) + 1 by omega, s] at h
    unfold hsB at h
    split at h
    · omega
    · have q := hsN_k h
      unfold nxD
      by_cases e : hX f N (n : Int) = 2 ∨ hX f N (n : Int) = 3
      · rw [if_pos e]; omega
      · rw [if_neg e]; exact ih (by omega)
theorem rf_r {M : jm} (h : RI M) (x i : Int) : 0 ≤ rf M x i ∧ rf M x i ≤ 255 := by
  have q := h 601 (400 * x + i) (by decide)
  rw [xri_row rfl rfl] at q
  exact q
theorem lay2 {M : jm} {x i w a b : Int} (ha : a = bt w 1) (hb : b = bt w 0) : rf (ju (ju M 601 (400 * x + i) a) 601 (400 * x + i + 1) b) x = ptn (rf M x) i 2 w := by
  funext k
  unfold rf ptn
  by_cases q : k = i + 1
  · subst q
    rw [show 400 * x + (i + 1) = 400 * x + i + 1 by omega, ju_same, if_pos (by omega), show i + 2 - 1 - (i + 1) = 0 by omega, hb]
  · rw [ju_i _ _ (by omega)]
    by_cases q2 : k = i
    · subst q2
      rw [ju_same, if_pos (by omega), show k + 2 - 1 - k = 1 by omega, ha]
    · rw [ju_i _ _ (by omega), if_neg (by omega)]
theorem ptn_id {f : Int → Int} {y v : Int} (h : tw f y = v) (h0 : 0 ≤ f y ∧ f y ≤ 255) (h1 : 0 ≤ f (y + 1) ∧ f (y + 1) ≤ 255) : ptn f y 2 v = f := by
  funext k
  unfold ptn
  by_cases q : y ≤ k ∧ k < y + 2
  · rw [if_pos q]
    unfold tw at h
    rcases (show k = y ∨ k = y + 1 by omega) with e | e
    · subst e
      rw [show k + 2 - 1 - k = 1 by omega]
      show v / 256 % 256 = f k
      omega
    · subst e
      rw [show y + 2 - 1 - (y + 1) = 0 by omega]
      show v % 256 = f (y + 1)
      omega
  · rw [if_neg q]
theorem sb_9 {f : Int → Int} {a : Int} (h : 0 ≤ a) (n : Nat) : sb (fz f (-9)) a n = sb f a n := sb_e n (fun i h0 h1 => by unfold fz; rw [if_neg (by omega)])
/-- a row of bytes with two more -/
noncomputable def OX (M M' : jm) (x : Int) : Prop := ∀ j : Int, (j < 400 * x ∨ 400 * x + 400 ≤ j) → M' 601 j = M 601 j
theorem r_carried_L44_x {A : Nat → Option (Nat × (Nat → Int32))} {Q : Option Value → jm → Prop} {M0 : jm} {x0 : Int} {h0 : Int} {c0 : Int} (q : ∀ (r : Int) (M' : jm), RI M' → RH M' → RF M' → (-3) ≤ r ∧ r ≤ 12 → (((x0 < 0 ∨ 23 < x0 ∨ M0 600 x0 = -1) ∧ r = -2) ∨ (((0 ≤ x0 ∧ x0 ≤ 23) ∧ M0 600 x0 ≠ -1) ∧ ∃ C : Int, HE (rf M0 x0) (M0 600 x0) C ∧ (((h0 < 0 ∨ c0 < 0 ∨ C < h0 + c0) ∧ r = -3) ∨ ((0 ≤ h0 ∧ 0 ≤ c0 ∧ h0 + c0 ≤ C) ∧ r = crr (rf M0 x0) (M0 600 x0) c0.toNat h0)))) → (∀ (a : Nat) (i : Int), a ≠ 598 → a ≠ 603 → a ≠ 604 → a ≠ 605 → M' a i = M0 a i) → (∀ (i : Int), i ≠ 6 → i ≠ 10 → i ≠ 11 → i ≠ 12 → M' 598 i = M0 598 i) → Q (some (.int (Int32.ofInt r))) M') : ∀ (nM : Nat) (M : jm) (w : Int) (c : Int) (h : Int) (x : Int), RI M → RH M → RF M → (∀ (a : Nat) (i : Int), a ≠ 598 → a ≠ 603 → a ≠ 604 → a ≠ 605 → M a i = M0 a i) → (∀ (i : Int), i ≠ 6 → i ≠ 10 → i ≠ 11 → i ≠ 12 → M 598 i = M0 598 i) → 0 ≤ w ∧ w ≤ 12 → 0 ≤ c ∧ c ≤ 12 → 0 ≤ h ∧ h ≤ 12 → 0 ≤ x ∧ x ≤ 23 → w ≤ c → h + c ≤ 12 → HQ6 M (rf M0 x) (M0 600 x) → crr (rf M0 x) (M0 600 x) c.toNat h = w + crr (rf M0 x) (M0 600 x) (c - w).toNat (h + w) → h + c ≤ M 598 6 ∧ M0 600 x ≠ -1 → x = x0 → h = h0 → c = c0 → c - w ≤ nM → jr A 4 xm_278 44 [(4, .int (Int32.ofInt (w))), (3, .int (Int32.ofInt (c))), (2, .int (Int32.ofInt (h))), (1, .int (Int32.ofInt (x))), (0, .ref (598))] [] M Q := by
  intro nM
  induction nM using Nat.strongRecOn with
  | ind nM ih =>
    intro M w c h x hI_M hH_M hS_M hF_M hG_M h_w h_c h_h h_x hy0 hy1 hy2 hy3 hy4 hy5 hy6 hy7 hm
    subst hy5
    subst hy6
    subst hy7
    refine jr.iload rfl rfl ?_
    refine jr.iload_n rfl rfl ?_
    refine jr.icmp_ge rfl rfl (by omega) (by omega) (fun h47 => ?_) (fun h47 => ?_)
    · refine jr.iload rfl rfl ?_
      exact jr.ireturn rfl rfl rfl (q _ _ hI_M hH_M hS_M  (by omega) (Or.inr ⟨by omega, M 598 6, HQ6.e hy2, Or.inr ⟨by omega, by (rw [hy3, cr_0 (by omega)]; omega)⟩⟩) (fun a i f598 f603 f604 f605 => (hF_M a i f598 f603 f604 f605)) (fun i g6 g10 g11 g12 => (hG_M i g6 g10 g11 g12)))
    · refine jr.aload_n rfl rfl ?_
      refine jr.getf (i := 7) (v := .ref 603) rfl rfl (by decide) rfl (by decide) rfl rfl rfl rfl ?_
      refine jr.iload_n rfl rfl ?_
      refine jr.iload rfl rfl ?_
      refine jr.iadd rfl ?_
      obtain ⟨v1, e1⟩ : ∃ z, M 603 (h + w) = z := ⟨_, rfl⟩
      have b1 : 0 ≤ v1 ∧ v1 ≤ 11 := by rw [← e1]; exact (by have q := hI_M 603 (h + w) (by decide); rw [xri_row rfl rfl] at q; exact q)
      refine jr.iald (i := (h + w)) (x := v1) rfl (by decide) rfl (by decide) (by omega) (by omega) e1 ?_
      refine jr_s rfl rfl (Or.inl rfl) ⟨Nat.le_of_ble_eq_true rfl, Nat.le_of_ble_eq_true rfl⟩ rfl rfl (jc.deep (c_isCarried (by omega) (fun c59 => ?_) (fun c59 => ?_)) (by decide))
      · refine jr.if_eq rfl rfl (by omega) (fun h => absurd h (by decide)) (fun _ => ?_)
        refine jr.iinc rfl rfl (by decide) rfl ?_
        refine jr.goto rfl rfl ?_
        refine jr.pick [0, 1, 2, 3, 4] rfl rfl ?_
        exact ih (nM - 1) (by omega) M (w + 1) c h x hI_M hH_M hS_M  (fun a i f598 f603 f604 f605 => (hF_M a i f598 f603 f604 f605)) (fun i g6 g10 g11 g12 => (hG_M i g6 g10 g11 g12)) (by omega) (by omega) (by omega) (by omega) (by omega) (by omega) hy2 (by have hr : M 603 (h + w) = _ := (hy2.2.1 (h + w) (by omega) (by omega)).2.1; rw [hy3, cr_s (by omega), if_pos (by omega), show c - w - 1 = c - (w + 1) from by omega, show h + w + 1 = h + (w + 1) from by omega]; omega) hy4 (by omega) (by omega) (by omega) (by omega)
      · refine jr.if_eq rfl rfl (by omega) (fun _ => ?_) (fun h => absurd (by decide) h)
        refine jr.iload rfl rfl ?_
        exact jr.ireturn rfl rfl rfl (q _ _ hI_M hH_M hS_M  (by omega) (Or.inr ⟨by omega, M 598 6, HQ6.e hy2, Or.inr ⟨by omega, by (have hr : M 603 (h + w) = _ := (hy2.2.1 (h + w) (by omega) (by omega)).2.1; rw [hy3, cr_s (by omega), if_neg (by omega)]; omega)⟩⟩) (fun a i f598 f603 f604 f605 => (hF_M a i f598 f603 f604 f605)) (fun i g6 g10 g11 g12 => (hG_M i g6 g10 g11 g12)))
theorem r_carried_x {A : Nat → Option (Nat × (Nat → Int32))} {Q : Option Value → jm → Prop} {M : jm} (hI_M : RI M) (hH_M : RH M) (hS_M : RF M) {x : Int} (h_x : (-2147483648) ≤ x ∧ x ≤ 2147483647) {h : Int} (h_h : (-2147483648) ≤ h ∧ h ≤ 2147483647) {c : Int} (h_c : (-2147483648) ≤ c ∧ c ≤ 2147483647) (q : ∀ (r : Int) (M' : jm), RI M' → RH M' → RF M' → (-3) ≤ r ∧ r ≤ 12 → (((x < 0 ∨ 23 < x ∨ M 600 x = -1) ∧ r = -2) ∨ (((0 ≤ x ∧ x ≤ 23) ∧ M 600 x ≠ -1) ∧ ∃ C : Int, HE (rf M x) (M 600 x) C ∧ (((h < 0 ∨ c < 0 ∨ C < h + c) ∧ r = -3) ∨ ((0 ≤ h ∧ 0 ≤ c ∧ h + c ≤ C) ∧ r = crr (rf M x) (M 600 x) c.toNat h)))) → (∀ (a : Nat) (i : Int), a ≠ 598 → a ≠ 603 → a ≠ 604 → a ≠ 605 → M' a i = M a i) → (∀ (i : Int), i ≠ 6 → i ≠ 10 → i ≠ 11 → i ≠ 12 → M' 598 i = M 598 i) → Q (some (.int (Int32.ofInt r))) M') : jc A 5 278 [.ref (598), .int (Int32.ofInt (x)), .int (Int32.ofInt (h)), .int (Int32.ofInt (c))] M Q := by
  refine jc_of (m := xm_278) rfl (Nat.le_of_ble_eq_true rfl) rfl ?_
  refine jr.aload_n rfl rfl ?_
  refine jr.iload_n rfl rfl ?_
  refine jr_v rfl rfl (Or.inl rfl) rfl rfl (by decide) rfl ⟨rfl, Nat.le_of_ble_eq_true rfl, Nat.le_of_ble_eq_true rfl⟩ rfl (jc.deep (c_isThere hI_M (by omega) (fun l2 u2 t2 => ?_) (fun n2 => ?_)) (by decide))
  · refine jr.if_ne rfl rfl (by omega) (fun _ => ?_) (fun h => absurd (by decide) h)
    refine jr.aload_n rfl rfl ?_
    refine jr.iload_n rfl rfl ?_
    obtain ⟨v2, e2⟩ : ∃ z, M 600 x = z := ⟨_, rfl⟩
    have b2 : (-1) ≤ v2 ∧ v2 ≤ 400 := by rw [← e2]; exact (by have q := hI_M 600 x (by decide); rw [xri_row rfl rfl] at q; exact q)
    refine jr_v rfl rfl (Or.inl rfl) rfl rfl (by decide) rfl ⟨rfl, Nat.le_of_ble_eq_true rfl, Nat.le_of_ble_eq_true rfl⟩ rfl (jc.deep (r_look_x hI_M hH_M hS_M  (by omega) (by rw [e2]; omega) (fun M1 hI_M1 hH_M1 hS_M1  w1_0 w1_1 w1_2 w1_3 => ?_)) (by decide))
    refine jr.iload_n rfl rfl ?_
    refine jr.if_lt rfl rfl (by omega) (fun h17 => ?_) (fun h17 => ?_)
    · refine jr.bipush rfl (by decide) ?_
      exact jr.ireturn rfl rfl rfl (q _ _ hI_M1 hH_M1 hS_M1  (by omega) (Or.inr ⟨by omega, M1 598 6, HQ6.e w1_1, Or.inl ⟨by omega, by omega⟩⟩) (fun a i f598 f603 f604 f605 => ((w1_2 a i f598 f603 f604 f605).trans rfl)) (fun i g6 g10 g11 g12 => ((w1_3 i g6 g10 g11 g12).trans rfl)))
    · refine jr.iload_n rfl rfl ?_
      refine jr.if_lt rfl rfl (by omega) (fun h21 => ?_) (fun h21 => ?_)
      · refine jr.bipush rfl (by decide) ?_
        exact jr.ireturn rfl rfl rfl (q _ _ hI_M1 hH_M1 hS_M1  (by omega) (Or.inr ⟨by omega, M1 598 6, HQ6.e w1_1, Or.inl ⟨by omega, by omega⟩⟩) (fun a i f598 f603 f604 f605 => ((w1_2 a i f598 f603 f604 f605).trans rfl)) (fun i g6 g10 g11 g12 => ((w1_3 i g6 g10 g11 g12).trans rfl)))
      · refine jr.iload_n rfl rfl ?_
        refine jr.i2l rfl (by omega) ?_
        refine jr.iload_n rfl rfl ?_
        refine jr.i2l rfl (by omega) ?_
        refine jr.ladd rfl ?_
        refine jr.aload_n rfl rfl ?_
        obtain ⟨v3, e3⟩ : ∃ z, M1 598 6 = z := ⟨_, rfl⟩
        have b3 : 0 ≤ v3 ∧ v3 ≤ 12 := by rw [← e3]; exact hI_M1 598 6 (by decide)
        refine jr.getf (i := 6) (x := v3) (v := .int (Int32.ofInt (v3))) rfl rfl (by decide) rfl (by decide) rfl rfl e3 rfl ?_
        refine jr.i2l rfl (by omega) ?_
        refine jr.lcmp_le rfl rfl rfl (by omega) (by omega) (fun h34 => ?_) (fun h34 => ?_)
        · refine jr.iconst rfl ?_
          refine jr.istore rfl (by decide) rfl ?_
          refine jr.pick [0, 4, 3, 2, 1] rfl rfl ?_
          exact r_carried_L44_x q 12 M1 0 c h x hI_M1 hH_M1 hS_M1  (fun a i f598 f603 f604 f605 => ((w1_2 a i f598 f603 f604 f605).trans rfl)) (fun i g6 g10 g11 g12 => ((w1_3 i g6 g10 g11 g12).trans rfl)) (by omega) (by omega) (by omega) (by omega) (by omega) (by omega) w1_1 (by rw [show c - 0 = c from by omega, show h + 0 = h from by omega]; omega) (by omega) (by omega) (by omega) (by omega) (by omega)
        · refine jr.bipush rfl (by decide) ?_
          exact jr.ireturn rfl rfl rfl (q _ _ hI_M1 hH_M1 hS_M1  (by omega) (Or.inr ⟨by omega, M1 598 6, HQ6.e w1_1, Or.inl ⟨by omega, by omega⟩⟩) (fun a i f598 f603 f604 f605 => ((w1_2 a i f598 f603 f604 f605).trans rfl)) (fun i g6 g10 g11 g12 => ((w1_3 i g6 g10 g11 g12).trans rfl)))
  · refine jr.if_ne rfl rfl (by omega) (fun h => absurd h (by decide)) (fun _ => ?_)
    refine jr.bipush rfl (by decide) ?_
    exact jr.ireturn rfl rfl rfl (q _ _ hI_M hH_M hS_M  (by omega) (Or.inl ⟨by omega, by omega⟩) (fun a i f598 f603 f604 f605 => rfl) (fun i g6 g10 g11 g12 => rfl))
theorem r_added_L6_x {A : Nat → Option (Nat × (Nat → Int32))} {Q : Option Value → jm → Prop} {x0 : Int} {u0 : Int} {t0 : Int} {b0 : Int} {M : jm} (hI_M : RI M) (hH_M : RH M) (hS_M : RF M) (q : ∀ (r : Int), 0 ≤ r ∧ r ≤ 30000000 → r = sb (fz (rf M x0) b0) u0 (t0 - u0).toNat → Q (some (.long (Int64.ofInt r))) M) : ∀ (nM : Nat) (k : Int) (s : Int) (b : Int) (t : Int) (u : Int) (x : Int), 0 ≤ k ∧ k ≤ 400 → 0 ≤ s ∧ s ≤ 30000000 → (-2000) ≤ b ∧ b ≤ 2000 → 0 ≤ t ∧ t ≤ 400 → 0 ≤ u ∧ u ≤ 400 → 0 ≤ x ∧ x ≤ 23 → s = sb (fz (rf M x) b) u (k - u).toNat → u ≤ k ∧ k ≤ t → s ≤ 65280 * (k - u) → x = x0 → u = u0 → t = t0 → b = b0 → 400 - k ≤ nM → jr A 1 xm_279 6 [(7, .int (Int32.ofInt (k))), (5, .long (Int64.ofInt (s))), (4, .int (Int32.ofInt (b))), (3, .int (Int32.ofInt (t))), (2, .int (Int32.ofInt (u))), (1, .int (Int32.ofInt (x))), (0, .ref (598))] [] M Q := by
  intro nM
  induction nM using Nat.strongRecOn with
  | ind nM ih =>
    intro k s b t u x h_k h_s h_b h_t h_u h_x hy0 hy1 hy2 hy3 hy4 hy5 hy6 hm
    subst hy3
    subst hy4
    subst hy5
    subst hy6
    refine jr.iload rfl rfl ?_
    refine jr.iload_n rfl rfl ?_
    refine jr.icmp_ge rfl rfl (by omega) (by omega) (fun h9 => ?_) (fun h9 => ?_)
    · refine jr.lload rfl rfl ?_
      exact jr.lreturn rfl rfl (q _ (by omega) (by rw [← show k = t from by omega]; exact hy0))
    · refine jr.iload rfl rfl ?_
      refine jr.iload rfl rfl ?_
      refine jr.icmp_eq rfl rfl (by omega) (by omega) (fun h16 => ?_) (fun h16 => ?_)
      · refine jr.iconst rfl ?_
        refine jr.goto rfl rfl ?_
        refine jr.istore rfl (by decide) rfl ?_
        refine jr.lload rfl rfl ?_
        refine jr.iload rfl rfl ?_
        refine jr.iload_n rfl rfl ?_
        refine jr.isub rfl ?_
        refine jr.iconst rfl ?_
        refine jr.irem rfl (by decide) ?_
        have b1 : j_rem (k - u) 2 = (k - u) % 2 := j_rem_ex (by omega) (by omega)
        generalize j_rem (k - u) 2 = v1 at b1 ⊢
        refine jr.if_ne rfl rfl (by omega) (fun h49 => ?_) (fun h49 => ?_)
        · have sx49 : (1 : Int) ≤ v1 := by omega
          refine jr.iload rfl rfl ?_
          refine jr.i2l rfl (by omega) ?_
          refine jr.ladd rfl ?_
          refine jr.lstore rfl (by decide) rfl ?_
          refine jr.iinc rfl rfl (by decide) rfl ?_
          refine jr.goto rfl rfl ?_
          refine jr.pick [0, 1, 3, 4, 5, 6, 7] rfl rfl ?_
          exact ih (nM - 1) (by omega) (k + 1) (s + 0) b t u x (by omega) (by omega) (by omega) (by omega) (by omega) (by omega) (by rw [sb_s (by omega), ← hy0]; unfold fz; (try rw [rf_a]); (repeat' split) <;> omega) (by omega) (by omega) (by omega) (by omega) (by omega) (by omega) (by omega)
        · refine jr.iload rfl rfl ?_
          refine jr.bipush rfl (by decide) ?_
          refine jr.ishl rfl ?_
          have b2 : j_shl 0 8 = 0 * 256 := j_shl_ex 8 (by decide) (by omega) (by omega)
          generalize j_shl 0 8 = v2 at b2 ⊢
          refine jr.i2l rfl (by omega) ?_
          refine jr.goto rfl rfl ?_
          refine jr.ladd rfl ?_
          refine jr.lstore rfl (by decide) rfl ?_
          refine jr.iinc rfl rfl (by decide) rfl ?_
          refine jr.goto rfl rfl ?_
          refine jr.pick [0, 1, 3, 4, 5, 6, 7] rfl rfl ?_
          exact ih (nM - 1) (by omega) (k + 1) (s + v2) b t u x (by omega) (by omega) (by omega) (by omega) (by omega) (by omega) (by rw [sb_s (by omega), ← hy0]; unfold fz; (try rw [rf_a]); (repeat' split) <;> omega) (by omega) (by omega) (by omega) (by omega) (by omega) (by omega) (by omega)
      · refine jr.iload rfl rfl ?_
        refine jr.iload rfl rfl ?_
        refine jr.iconst rfl ?_
        refine jr.iadd rfl ?_
        refine jr.icmp_ne rfl rfl (by omega) (by omega) (fun h25 => ?_) (fun h25 => ?_)
        · refine jr.aload_n rfl rfl ?_
          refine jr.iload_n rfl rfl ?_
          refine jr.iload rfl rfl ?_
          refine jr_v rfl rfl (Or.inl rfl) rfl rfl (by decide) rfl ⟨rfl, Nat.le_of_ble_eq_true rfl, Nat.le_of_ble_eq_true rfl⟩ rfl (jc.deep (r_one hI_M hH_M hS_M (Kp.rfl _) (by omega) (by omega)  (fun r3 z3 w3_0 => ?_)) (by decide))
          refine jr.istore rfl (by decide) rfl ?_
          refine jr.lload rfl rfl ?_
          refine jr.iload rfl rfl ?_
          refine jr.iload_n rfl rfl ?_
          refine jr.isub rfl ?_
          refine jr.iconst rfl ?_
          refine jr.irem rfl (by decide) ?_
          have b4 : j_rem (k - u) 2 = (k - u) % 2 := j_rem_ex (by omega) (by omega)
          generalize j_rem (k - u) 2 = v4 at b4 ⊢
          refine jr.if_ne rfl rfl (by omega) (fun h49 => ?_) (fun h49 => ?_)
          · have sx49 : (1 : Int) ≤ v4 := by omega
            refine jr.iload rfl rfl ?_
            refine jr.i2l rfl (by omega) ?_
            refine jr.ladd rfl ?_
            refine jr.lstore rfl (by decide) rfl ?_
            refine jr.iinc rfl rfl (by decide) rfl ?_
            refine jr.goto rfl rfl ?_
            refine jr.pick [0, 1, 3, 4, 5, 6, 7] rfl rfl ?_
            exact ih (nM - 1) (by omega) (k + 1) (s + r3) b t u x (by omega) (by omega) (by omega) (by omega) (by omega) (by omega) (by rw [sb_s (by omega), ← hy0]; unfold fz; (try rw [rf_a]); (repeat' split) <;> omega) (by omega) (by omega) (by omega) (by omega) (by omega) (by omega) (by omega)
          · refine jr.iload rfl rfl ?_
            refine jr.bipush rfl (by decide) ?_
            refine jr.ishl rfl ?_
            have b5 : j_shl r3 8 = r3 * 256 := j_shl_ex 8 (by decide) (by omega) (by omega)
            generalize j_shl r3 8 = v5 at b5 ⊢
            refine jr.i2l rfl (by omega) ?_
            refine jr.goto rfl rfl ?_
            refine jr.ladd rfl ?_
            refine jr.lstore rfl (by decide) rfl ?_
            refine jr.iinc rfl rfl (by decide) rfl ?_
            refine jr.goto rfl rfl ?_
            refine jr.pick [0, 1, 3, 4, 5, 6, 7] rfl rfl ?_
            exact ih (nM - 1) (by omega) (k + 1) (s + v5) b t u x (by omega) (by omega) (by omega) (by omega) (by omega) (by omega) (by rw [sb_s (by omega), ← hy0]; unfold fz; (try rw [rf_a]); (repeat' split) <;> omega) (by omega) (by omega) (by omega) (by omega) (by omega) (by omega) (by omega)
        · refine jr.iconst rfl ?_
          refine jr.goto rfl rfl ?_
          refine jr.istore rfl (by decide) rfl ?_
          refine jr.lload rfl rfl ?_
          refine jr.iload rfl rfl ?_
          refine jr.iload_n rfl rfl ?_
          refine jr.isub rfl ?_
          refine jr.iconst rfl ?_
          refine jr.irem rfl (by decide) ?_
          have b6 : j_rem (k - u) 2 = (k - u) % 2 := j_rem_ex (by omega) (by omega)
          generalize j_rem (k - u) 2 = v6 at b6 ⊢
          refine jr.if_ne rfl rfl (by omega) (fun h49 => ?_) (fun h49 => ?_)
          · have sx49 : (1 : Int) ≤ v6 := by omega
            refine jr.iload rfl rfl ?_
            refine jr.i2l rfl (by omega) ?_
            refine jr.ladd rfl ?_
            refine jr.lstore rfl (by decide) rfl ?_
            refine jr.iinc rfl rfl (by decide) rfl ?_
            refine jr.goto rfl rfl ?_
            refine jr.pick [0, 1, 3, 4, 5, 6, 7] rfl rfl ?_
            exact ih (nM - 1) (by omega) (k + 1) (s + 0) b t u x (by omega) (by omega) (by omega) (by omega) (by omega) (by omega) (by rw [sb_s (by omega), ← hy0]; unfold fz; (try rw [rf_a]); (repeat' split) <;> omega) (by omega) (by omega) (by omega) (by omega) (by omega) (by omega) (by omega)
          · refine jr.iload rfl rfl ?_
            refine jr.bipush rfl (by decide) ?_
            refine jr.ishl rfl ?_
            have b7 : j_shl 0 8 = 0 * 256 := j_shl_ex 8 (by decide) (by omega) (by omega)
            generalize j_shl 0 8 = v7 at b7 ⊢
            refine jr.i2l rfl (by omega) ?_
            refine jr.goto rfl rfl ?_
            refine jr.ladd rfl ?_
            refine jr.lstore rfl (by decide) rfl ?_
            refine jr.iinc rfl rfl (by decide) rfl ?_
            refine jr.goto rfl rfl ?_
            refine jr.pick [0, 1, 3, 4, 5, 6, 7] rfl rfl ?_
            exact ih (nM - 1) (by omega) (k + 1) (s + v7) b t u x (by omega) (by omega) (by omega) (by omega) (by omega) (by omega) (by rw [sb_s (by omega), ← hy0]; unfold fz; (try rw [rf_a]); (repeat' split) <;> omega) (by omega) (by omega) (by omega) (by omega) (by omega) (by omega) (by omega)
theorem r_added_x {A : Nat → Option (Nat × (Nat → Int32))} {Q : Option Value → jm → Prop} {M : jm} (hI_M : RI M) (hH_M : RH M) (hS_M : RF M) {x : Int} (h_x : 0 ≤ x ∧ x ≤ 23) {u : Int} (h_u : 0 ≤ u ∧ u ≤ 400) {t : Int} (h_t : 0 ≤ t ∧ t ≤ 400) {b : Int} (h_b : (-2000) ≤ b ∧ b ≤ 2000) (p0 : u ≤ t) (q : ∀ (r : Int), 0 ≤ r ∧ r ≤ 30000000 → r = sb (fz (rf M x) b) u (t - u).toNat → Q (some (.long (Int64.ofInt r))) M) : jc A 2 279 [.ref (598), .int (Int32.ofInt (x)), .int (Int32.ofInt (u)), .int (Int32.ofInt (t)), .int (Int32.ofInt (b))] M Q := by
  refine jc_of (m := xm_279) rfl (Nat.le_of_ble_eq_true rfl) rfl ?_
  refine jr.lconst (x := 0) rfl (by decide) ?_
  refine jr.lstore rfl (by decide) rfl ?_
  refine jr.iload_n rfl rfl ?_
  refine jr.istore rfl (by decide) rfl ?_
  refine jr.pick [0, 1, 6, 5, 4, 3, 2] rfl rfl ?_
  exact r_added_L6_x hI_M hH_M hS_M q 400 u 0 b t u x (by omega) (by omega) (by omega) (by omega) (by omega) (by omega) (sb_0 _ _).symm (by omega) (by omega) (by omega) (by omega) (by omega) (by omega) (by omega)
theorem r_turned_L2_x {A : Nat → Option (Nat × (Nat → Int32))} {Q : Option Value → jm → Prop} {w0 : Int} {M : jm} (hI_M : RI M) (hH_M : RH M) (hS_M : RF M) (q : ∀ (r : Int), 0 ≤ r ∧ r ≤ 65535 → r = tn w0 → Q (some (.int (Int32.ofInt r))) M) : ∀ (nM : Nat) (v : Int) (w : Int), 0 ≤ v ∧ v ≤ 4294967295 → 0 ≤ w ∧ w ≤ 4294967295 → fin v = fin w → w = w0 → v ≤ nM → jr A 0 xm_280 2 [(2, .long (Int64.ofInt (v))), (0, .long (Int64.ofInt (w)))] [] M Q := by
  intro nM
  induction nM using Nat.strongRecOn with
  | ind nM ih =>
    intro v w h_v h_w hy0 hy1 hm
    subst hy1
    refine jr.lload_n rfl rfl ?_
    refine jr.ldc2 (x := 65535) rfl rfl (by decide) ?_
    refine jr.lcmp_le rfl rfl rfl (by omega) (by omega) (fun h6 => ?_) (fun h6 => ?_)
    · refine jr.ldc2 (x := 65535) rfl rfl (by decide) ?_
      refine jr.lload_n rfl rfl ?_
      refine jr.lsub rfl ?_
      refine jr.l2i rfl ?_
      exact jr.ireturn rfl rfl rfl (q _ (by omega) (by unfold tn; rw [← hy0, fin_e (by omega)]))
    · refine jr.lload_n rfl rfl ?_
      refine jr.ldc2 (x := 65535) rfl rfl (by decide) ?_
      refine jr.land rfl ?_
      have b1 : jl_and v 65535 = v % 65536 := jl_and_mask 16 (by decide) (by omega) (by omega)
      generalize jl_and v 65535 = v1 at b1 ⊢
      refine jr.lload_n rfl rfl ?_
      refine jr.bipush rfl (by decide) ?_
      refine jr.lshr rfl ?_
      have b2 : jl_shr v 16 = v / 65536 := jl_shr_ex 16 (by decide) (by omega) (by omega)
      generalize jl_shr v 16 = v2 at b2 ⊢
      refine jr.ladd rfl ?_
      refine jr.lstore_n rfl (by decide) rfl ?_
      refine jr.goto rfl rfl ?_
      refine jr.pick [0, 1] rfl rfl ?_
      exact ih (nM - 1) (by omega) (v1 + v2) w (by omega) (by omega) (by have hq := fin_s (v := v) (by omega) (by omega); rw [← hy0, ← hq.1]; unfold fo; congr 1; omega) (by omega) (by omega)
theorem r_turned_x {A : Nat → Option (Nat × (Nat → Int32))} {Q : Option Value → jm → Prop} {M : jm} (hI_M : RI M) (hH_M : RH M) (hS_M : RF M) {w : Int} (h_w : 0 ≤ w ∧ w ≤ 4294967295) (q : ∀ (r : Int), 0 ≤ r ∧ r ≤ 65535 → r = tn w → Q (some (.int (Int32.ofInt r))) M) : jc A 1 280 [.long (Int64.ofInt (w))] M Q := by
  refine jc_of (m := xm_280) rfl (Nat.le_of_ble_eq_true rfl) rfl ?_
  refine jr.lload_n rfl rfl ?_
  refine jr.lstore_n rfl (by decide) rfl ?_
  refine jr.pick [0, 1] rfl rfl ?_
  exact r_turned_L2_x hI_M hH_M hS_M q 4294967295 w w (by omega) (by omega) rfl (by omega) (by omega)
end
section
/-! ===== the reference: sumOf, right, repair ===== -/
/-- headers of f, N stand in the reference, C of them -/
noncomputable def HT (M : jm) (f : Int → Int) (N C : Int) : Prop := M 598 6 = C ∧ HR M 602 f N C ∧ (0 ≤ N ∧ N ≤ 400) ∧ ∀ i : Int, 0 ≤ i → i < 400 → 0 ≤ f i ∧ f i ≤ 255
theorem HQ6.t {M : jm} {f : Int → Int} {N : Int} (h : HQ6 M f N) (hN : 0 ≤ N ∧ N ≤ 400) (hf : ∀ i : Int, 0 ≤ i → i < 400 → 0 ≤ f i ∧ f i ≤ 255) : HT M f N (M 598 6) := ⟨rfl, h.2.1, hN, hf⟩
theorem HT.f {M : jm} {f : Int → Int} {N C x : Int} (h : HT M f N C) (hx : 0 ≤ x ∧ x < C) : M 603 x = hX f N x ∧ M 604 x = hY f N x ∧ M 605 x = hZ f N x ∧ hY f N x + lst (hX f N x) ≤ N ∧ hY f N x + hZ f N x ≤ N ∧ 0 ≤ hZ f N x ∧ ¬ ((hX f N x = 2 ∨ hX f N x = 8) ∧ hZ f N x < 20) := by
  have hr := h.2.1 x hx.1 hx.2
  have hl := hok_l hr.1 h.2.2.2 h.2.2.1.2
  exact ⟨hr.2.1, hr.2.2.1, hr.2.2.2, hl.1, hl.2.1, hl.2.2.1, hl.2.2.2⟩
theorem HT.o {M M1 : jm} {f : Int → Int} {N C : Int} (h : HT M f N C) (g : ∀ (b : Nat) (i : Int), b ≠ 601 → M1 b i = M b i) : HT M1 f N C := by
  refine ⟨by rw [g 598 6 (by decide)]; exact h.1, fun i h0 h1 => ?_, h.2.2.1, h.2.2.2⟩
  have q := h.2.1 i h0 h1
  rw [g (602 + 1) i (by decide), g (602 + 2) i (by decide), g (602 + 3) i (by decide)]
  exact q
theorem dS_2 {f f1 : Int → Int} {N C x Y Z : Int} (hx : 0 ≤ x ∧ x < C) (hk : hX f N x = 2) (hy : hY f N x = Y) (hz : hZ f N x = Z) : dS f f1 N C x = tn (sb (fz f1 (Y + 10)) Y (Y + Z - Y).toNat) := by
  unfold dS dS0
  rw [kA_i hx, hk, if_pos (Or.inl rfl), if_pos rfl, hy, hz]
  rfl
theorem dS_7 {f f1 : Int → Int} {N C x Y : Int} (hx : 0 ≤ x ∧ x < C) (hk : hX f N x = 7) (hy : hY f N x = Y) : dS f f1 N C x = tn (sb (fz f1 (Y + sof 7)) Y (N - Y).toNat) := by
  unfold dS dS0
  rw [kA_i hx, hk, if_pos (Or.inr rfl), if_neg (by decide), hy]
theorem dS_n {f f1 : Int → Int} {N C x k : Int} (hx : 0 ≤ x ∧ x < C) (hk : hX f N x = k) (h8 : k = 8 ∨ k = 9) (hn : nxD f N x.toNat = -1) : dS f f1 N C x = -1 := by
  unfold dS
  rw [kA_i hx, hk, if_neg (by omega), if_pos h8, if_pos hn]
theorem dS_8 {f f1 : Int → Int} {N C x k n Y s : Int} (hx : 0 ≤ x ∧ x < C) (hk : hX f N x = k) (h8 : k = 8 ∨ k = 9) (hn : nxD f N x.toNat = n) (h1 : n ≠ -1) (hy : hY f N x = Y) (hs : s = sb (fz f1 (Y + sof k)) Y (N - Y).toNat + aD f f1 N n + (N - Y + (if k = 8 then 6 else 17))) : dS f f1 N C x = dsu k (tn s) := by
  unfold dS dS0
  rw [kA_i hx, hk, if_neg (by omega), if_pos h8, hn, if_neg h1, if_neg (by omega), hy, hs]
  congr 2
  omega
theorem dS_o {f f1 : Int → Int} {N C x k : Int} (hx : 0 ≤ x ∧ x < C) (hk : hX f N x = k) (h8 : ¬ (k = 2 ∨ k = 7 ∨ k = 8 ∨ k = 9)) : dS f f1 N C x = -1 := by
  unfold dS
  rw [kA_i hx, hk, if_neg (by omega), if_neg (by omega)]
theorem r_sumAt_x {A : Nat → Option (Nat × (Nat → Int32))} {Q : Option Value → jm → Prop} {M : jm} (hI_M : RI M) (hH_M : RH M) (hS_M : RF M) {h : Int} (h_h : 0 ≤ h ∧ h ≤ 11) (q : ∀ (r : Int), (-1) ≤ r ∧ r ≤ 398 → (((M 603 h = 2 ∨ M 603 h = 7 ∨ M 603 h = 8 ∨ M 603 h = 9) ∧ 0 ≤ r ∧ r = M 604 h + sof (M 603 h)) ∨ (¬ (M 603 h = 2 ∨ M 603 h = 7 ∨ M 603 h = 8 ∨ M 603 h = 9) ∧ r = -1)) → Q (some (.int (Int32.ofInt r))) M) : jc A 1 281 [.ref (598), .int (Int32.ofInt (h))] M Q := by
  have rh := hH_M h
  have lk := lst_k (M 603 h)
  have so := sof_r (M 603 h)
  refine jc_of (m := xm_281) rfl (Nat.le_of_ble_eq_true rfl) rfl ?_
  refine jr.aload_n rfl rfl ?_
  refine jr.getf (i := 7) (v := .ref 603) rfl rfl (by decide) rfl (by decide) rfl rfl rfl rfl ?_
  refine jr.iload_n rfl rfl ?_
  obtain ⟨v1, e1⟩ : ∃ z, M 603 h = z := ⟨_, rfl⟩
  have b1 : 0 ≤ v1 ∧ v1 ≤ 11 := by rw [← e1]; exact (by have q := hI_M 603 h (by decide); rw [xri_row rfl rfl] at q; exact q)
  refine jr.iald (i := h) (x := v1) rfl (by decide) rfl (by decide) (by omega) (by omega) e1 ?_
  refine jr.istore_n rfl (by decide) rfl ?_
  refine jr.iload_n rfl rfl ?_
  refine jr.iconst rfl ?_
  refine jr.icmp_ne rfl rfl (by omega) (by omega) (fun h9 => ?_) (fun h9 => ?_)
  · refine jr.iload_n rfl rfl ?_
    refine jr.bipush rfl (by decide) ?_
    refine jr.icmp_ne rfl rfl (by omega) (by omega) (fun h27 => ?_) (fun h27 => ?_)
    · refine jr.iload_n rfl rfl ?_
      refine jr.bipush rfl (by decide) ?_
      refine jr.icmp_ne rfl rfl (by omega) (by omega) (fun h44 => ?_) (fun h44 => ?_)
      · refine jr.iload_n rfl rfl ?_
        refine jr.bipush rfl (by decide) ?_
        refine jr.icmp_ne rfl rfl (by omega) (by omega) (fun h62 => ?_) (fun h62 => ?_)
        · refine jr.iconst rfl ?_
          exact jr.ireturn rfl rfl rfl (q _ (by omega) (by omega))
        · refine jr.aload_n rfl rfl ?_
          refine jr.getf (i := 8) (v := .ref 604) rfl rfl (by decide) rfl (by decide) rfl rfl rfl rfl ?_
          refine jr.iload_n rfl rfl ?_
          obtain ⟨v2, e2⟩ : ∃ z, M 604 h = z := ⟨_, rfl⟩
          have b2 : 0 ≤ v2 ∧ v2 ≤ 400 := by rw [← e2]; exact (by have q := hI_M 604 h (by decide); rw [xri_row rfl rfl] at q; exact q)
          refine jr.iald (i := h) (x := v2) rfl (by decide) rfl (by decide) (by omega) (by omega) e2 ?_
          refine jr.bipush rfl (by decide) ?_
          refine jr.iadd rfl ?_
          refine jr.goto rfl rfl ?_
          exact jr.ireturn rfl rfl rfl (q _ (by omega) (by omega))
      · refine jr.aload_n rfl rfl ?_
        refine jr.getf (i := 8) (v := .ref 604) rfl rfl (by decide) rfl (by decide) rfl rfl rfl rfl ?_
        refine jr.iload_n rfl rfl ?_
        obtain ⟨v3, e3⟩ : ∃ z, M 604 h = z := ⟨_, rfl⟩
        have b3 : 0 ≤ v3 ∧ v3 ≤ 400 := by rw [← e3]; exact (by have q := hI_M 604 h (by decide); rw [xri_row rfl rfl] at q; exact q)
        refine jr.iald (i := h) (x := v3) rfl (by decide) rfl (by decide) (by omega) (by omega) e3 ?_
        refine jr.bipush rfl (by decide) ?_
        refine jr.iadd rfl ?_
        refine jr.goto rfl rfl ?_
        exact jr.ireturn rfl rfl rfl (q _ (by omega) (by omega))
    · refine jr.aload_n rfl rfl ?_
      refine jr.getf (i := 8) (v := .ref 604) rfl rfl (by decide) rfl (by decide) rfl rfl rfl rfl ?_
      refine jr.iload_n rfl rfl ?_
      obtain ⟨v4, e4⟩ : ∃ z, M 604 h = z := ⟨_, rfl⟩
      have b4 : 0 ≤ v4 ∧ v4 ≤ 400 := by rw [← e4]; exact (by have q := hI_M 604 h (by decide); rw [xri_row rfl rfl] at q; exact q)
      refine jr.iald (i := h) (x := v4) rfl (by decide) rfl (by decide) (by omega) (by omega) e4 ?_
      refine jr.iconst rfl ?_
      refine jr.iadd rfl ?_
      refine jr.goto rfl rfl ?_
      exact jr.ireturn rfl rfl rfl (q _ (by omega) (by omega))
  · refine jr.aload_n rfl rfl ?_
    refine jr.getf (i := 8) (v := .ref 604) rfl rfl (by decide) rfl (by decide) rfl rfl rfl rfl ?_
    refine jr.iload_n rfl rfl ?_
    obtain ⟨v5, e5⟩ : ∃ z, M 604 h = z := ⟨_, rfl⟩
    have b5 : 0 ≤ v5 ∧ v5 ≤ 400 := by rw [← e5]; exact (by have q := hI_M 604 h (by decide); rw [xri_row rfl rfl] at q; exact q)
    refine jr.iald (i := h) (x := v5) rfl (by decide) rfl (by decide) (by omega) (by omega) e5 ?_
    refine jr.bipush rfl (by decide) ?_
    refine jr.iadd rfl ?_
    refine jr.goto rfl rfl ?_
    exact jr.ireturn rfl rfl rfl (q _ (by omega) (by omega))
theorem r_sumOf_L61_x {A : Nat → Option (Nat × (Nat → Int32))} {Q : Option Value → jm → Prop} {f : Int → Int} {N C : Int} {x0 : Int} {h0 : Int} {M : jm} (hI_M : RI M) (hH_M : RH M) (hS_M : RF M) (q : ∀ (r : Int), (-1) ≤ r ∧ r ≤ 65535 → r = dS f (rf M x0) N C h0 → Q (some (.int (Int32.ofInt r))) M) : ∀ (nM : Nat) (t : Int) (a : Int) (k : Int) (h : Int) (x : Int), (-1) ≤ t ∧ t ≤ 10 → 0 ≤ a ∧ a ≤ 400 → 0 ≤ k ∧ k ≤ 11 → 0 ≤ h ∧ h ≤ 11 → 0 ≤ x ∧ x ≤ 23 → M 604 h = a → M 603 h = k → (k = 7 ∨ k = 8 ∨ k = 9) → HT M f N C → nxD f N h.toNat = nxD f N (t + 1).toNat → M 600 x = N → h < C → t < h → x = x0 → h = h0 → t + 1 ≤ nM → jr A 2 xm_282 61 [(5, .int (Int32.ofInt (t))), (4, .int (Int32.ofInt (a))), (3, .int (Int32.ofInt (k))), (2, .int (Int32.ofInt (h))), (1, .int (Int32.ofInt (x))), (0, .ref (598))] [] M Q := by
  intro nM
  induction nM using Nat.strongRecOn with
  | ind nM ih =>
    intro t a k h x h_t h_a h_k h_h h_x hy0 hy1 hy2 hy3 hy4 hy5 hy6 hy7 hy8 hy9 hm
    subst hy8
    subst hy9
    have rt := RH.two hH_M t
    have hh0 := HT.f hy3 (x := h) (by omega)
    have hN4 := hy3.2.2.1
    refine jr.iload rfl rfl ?_
    refine jr.if_lt rfl rfl (by omega) (fun h63 => ?_) (fun h63 => ?_)
    · refine jr.iload rfl rfl ?_
      refine jr.if_ge rfl rfl (by omega) (fun h96 => ?_) (fun h96 => ?_)
      · exact absurd h96 (by omega)
      · refine jr.iconst rfl ?_
        exact jr.ireturn rfl rfl rfl (q _ (by omega) (by have hh := HT.f hy3 (x := h) (by omega); exact Or.elim (show k = 7 ∨ (k = 8 ∨ k = 9) by omega) (fun h7 => absurd (by rw [hy4, nxD_e (by omega)]) (hX_n f N h.toNat (by rw [Int.toNat_of_nonneg (by omega)]; omega))) (fun h8 => (dS_n (k := k) (by omega) (by omega) h8 (by rw [hy4, nxD_e (by omega)])).symm)))
    · refine jr.aload_n rfl rfl ?_
      refine jr.getf (i := 7) (v := .ref 603) rfl rfl (by decide) rfl (by decide) rfl rfl rfl rfl ?_
      refine jr.iload rfl rfl ?_
      obtain ⟨v1, e1⟩ : ∃ z, M 603 t = z := ⟨_, rfl⟩
      have b1 : 0 ≤ v1 ∧ v1 ≤ 11 := by rw [← e1]; exact (by have q := hI_M 603 t (by decide); rw [xri_row rfl rfl] at q; exact q)
      refine jr.iald (i := t) (x := v1) rfl (by decide) rfl (by decide) (by omega) (by omega) e1 ?_
      refine jr.iconst rfl ?_
      refine jr.icmp_eq rfl rfl (by omega) (by omega) (fun h74 => ?_) (fun h74 => ?_)
      · refine jr.iload rfl rfl ?_
        refine jr.if_ge rfl rfl (by omega) (fun h96 => ?_) (fun h96 => ?_)
        · refine jr.aload_n rfl rfl ?_
          refine jr.iload_n rfl rfl ?_
          refine jr.iload rfl rfl ?_
          refine jr.aload_n rfl rfl ?_
          refine jr.getf (i := 3) (v := .ref 600) rfl rfl (by decide) rfl (by decide) rfl rfl rfl rfl ?_
          refine jr.iload_n rfl rfl ?_
          obtain ⟨v2, e2⟩ : ∃ z, M 600 x = z := ⟨_, rfl⟩
          have b2 : (-1) ≤ v2 ∧ v2 ≤ 400 := by rw [← e2]; exact (by have q := hI_M 600 x (by decide); rw [xri_row rfl rfl] at q; exact q)
          refine jr.iald (i := x) (x := v2) rfl (by decide) rfl (by decide) (by omega) (by omega) e2 ?_
          refine jr.aload_n rfl rfl ?_
          refine jr.iload_n rfl rfl ?_
          refine jr_v rfl rfl (Or.inl rfl) rfl rfl (by decide) rfl ⟨rfl, Nat.le_of_ble_eq_true rfl, Nat.le_of_ble_eq_true rfl⟩ rfl (jc.deep (r_sumAt_x hI_M hH_M hS_M  (by omega)  (fun r3 z3 w3_0 => ?_)) (by decide))
          refine jr_v rfl rfl (Or.inl rfl) rfl rfl (by decide) rfl ⟨rfl, Nat.le_of_ble_eq_true rfl, Nat.le_of_ble_eq_true rfl⟩ rfl (jc.deep (r_added_x hI_M hH_M hS_M  (by omega) (by omega) (by omega) (by omega) (by omega) (fun r4 z4 w4_0 => ?_)) (by decide))
          refine jr.lstore rfl (by decide) rfl ?_
          refine jr.iload_n rfl rfl ?_
          refine jr.bipush rfl (by decide) ?_
          refine jr.icmp_ne rfl rfl (by omega) (by omega) (fun h124 => ?_) (fun h124 => ?_)
          · refine jr.aload_n rfl rfl ?_
            refine jr.getf (i := 7) (v := .ref 603) rfl rfl (by decide) rfl (by decide) rfl rfl rfl rfl ?_
            refine jr.iload rfl rfl ?_
            refine jr.iald (i := t) (x := v1) rfl (by decide) rfl (by decide) (by omega) (by omega) e1 ?_
            refine jr.iconst rfl ?_
            refine jr.icmp_ne rfl rfl (by omega) (by omega) (fun h141 => ?_) (fun h141 => ?_)
            · exact absurd h141 (by omega)
            · refine jr.aload_n rfl rfl ?_
              refine jr.getf (i := 8) (v := .ref 604) rfl rfl (by decide) rfl (by decide) rfl rfl rfl rfl ?_
              refine jr.iload rfl rfl ?_
              obtain ⟨v5, e5⟩ : ∃ z, M 604 t = z := ⟨_, rfl⟩
              have b5 : 0 ≤ v5 ∧ v5 ≤ 400 := by rw [← e5]; exact (by have q := hI_M 604 t (by decide); rw [xri_row rfl rfl] at q; exact q)
              refine jr.iald (i := t) (x := v5) rfl (by decide) rfl (by decide) (by omega) (by omega) e5 ?_
              refine jr.bipush rfl (by decide) ?_
              refine jr.iadd rfl ?_
              refine jr.goto rfl rfl ?_
              refine jr.istore rfl (by decide) rfl ?_
              refine jr.lload rfl rfl ?_
              refine jr.aload_n rfl rfl ?_
              refine jr.iload_n rfl rfl ?_
              refine jr.iload rfl rfl ?_
              refine jr.aload_n rfl rfl ?_
              refine jr.getf (i := 7) (v := .ref 603) rfl rfl (by decide) rfl (by decide) rfl rfl rfl rfl ?_
              refine jr.iload rfl rfl ?_
              refine jr.iald (i := t) (x := v1) rfl (by decide) rfl (by decide) (by omega) (by omega) e1 ?_
              refine jr.iconst rfl ?_
              refine jr.icmp_ne rfl rfl (by omega) (by omega) (fun h183 => ?_) (fun h183 => ?_)
              · exact absurd h183 (by omega)
              · refine jr.iload rfl rfl ?_
                refine jr.bipush rfl (by decide) ?_
                refine jr.iadd rfl ?_
                refine jr.goto rfl rfl ?_
                refine jr.bipush rfl (by decide) ?_
                refine jr_v rfl rfl (Or.inl rfl) rfl rfl (by decide) rfl ⟨rfl, Nat.le_of_ble_eq_true rfl, Nat.le_of_ble_eq_true rfl⟩ rfl (jc.deep (r_added_x hI_M hH_M hS_M  (by omega) (by omega) (by omega) (by omega) (by omega) (fun r6 z6 w6_0 => ?_)) (by decide))
                refine jr.ladd rfl ?_
                refine jr.lstore rfl (by decide) rfl ?_
                refine jr.lload rfl rfl ?_
                refine jr.aload_n rfl rfl ?_
                refine jr.getf (i := 3) (v := .ref 600) rfl rfl (by decide) rfl (by decide) rfl rfl rfl rfl ?_
                refine jr.iload_n rfl rfl ?_
                refine jr.iald (i := x) (x := v2) rfl (by decide) rfl (by decide) (by omega) (by omega) e2 ?_
                refine jr.iload rfl rfl ?_
                refine jr.isub rfl ?_
                refine jr.iload_n rfl rfl ?_
                refine jr.bipush rfl (by decide) ?_
                refine jr.icmp_ne rfl rfl (by omega) (by omega) (fun h221 => ?_) (fun h221 => ?_)
                · refine jr.bipush rfl (by decide) ?_
                  refine jr.iadd rfl ?_
                  refine jr.i2l rfl (by omega) ?_
                  refine jr.ladd rfl ?_
                  refine jr.lstore rfl (by decide) rfl ?_
                  refine jr.lload rfl rfl ?_
                  refine jr_s rfl rfl (Or.inl rfl) ⟨Nat.le_of_ble_eq_true rfl, Nat.le_of_ble_eq_true rfl⟩ rfl rfl (jc.deep (r_turned_x hI_M hH_M hS_M  (by omega)  (fun r7 z7 w7_0 => ?_)) (by decide))
                  refine jr.istore rfl (by decide) rfl ?_
                  refine jr.iload_n rfl rfl ?_
                  refine jr.bipush rfl (by decide) ?_
                  refine jr.icmp_ne rfl rfl (by omega) (by omega) (fun h246 => ?_) (fun h246 => ?_)
                  · refine jr.iload rfl rfl ?_
                    exact jr.ireturn rfl rfl rfl (q _ (by omega) (by have hh := HT.f hy3 (x := h) (by omega); have htt := HT.f hy3 (x := t) (by omega); have hA1 : sb (fz (rf M x) (a + sof k)) a (N - a).toNat = r4 := (by rw [show a + sof k = r3 from by have h9 := w3_0; rw [hy1] at h9; omega, ← hy5, e2]; exact w4_0.symm); first | (have hA2 : aD f (rf M x) N t = r6 := (by unfold aD; rw [← htt.1, ← htt.2.1, e1, e5, if_pos (by omega), if_pos (by omega)]; have h9 := w6_0; rw [sb_9 (by omega), show v5 + 12 + 8 - (v5 + 12) = 8 from by omega] at h9; exact h9.symm); rw [dS_8 (k := k) (n := t) (Y := a) (s := r4 + r6 + (v2 - a + 6)) (by omega) (by omega) (by omega) (by rw [hy4, nxD_s (by omega), if_pos (by omega)]) (by omega) (by omega) (by rw [hA1, hA2, if_pos (by omega)]; omega), ← w7_0]; unfold dsu; first | (rw [if_pos (by omega)]; done) | (rw [if_neg (by omega)]; done)) | (have hA2 : aD f (rf M x) N t = r6 := (by unfold aD; rw [← htt.1, ← htt.2.1, e1, e5, if_pos (by omega), if_pos (by omega)]; have h9 := w6_0; rw [sb_9 (by omega), show v5 + 12 + 8 - (v5 + 12) = 8 from by omega] at h9; exact h9.symm); rw [dS_8 (k := k) (n := t) (Y := a) (s := r4 + r6 + (v2 - a + 17)) (by omega) (by omega) (by omega) (by rw [hy4, nxD_s (by omega), if_pos (by omega)]) (by omega) (by omega) (by rw [hA1, hA2, if_neg (by omega)]; omega), ← w7_0]; unfold dsu; first | (rw [if_pos (by omega)]; done) | (rw [if_neg (by omega)]; done)) | (have hA2 : aD f (rf M x) N t = r6 := (by unfold aD; rw [← htt.1, ← htt.2.1, e1, e5, if_neg (by omega), if_neg (by omega)]; have h9 := w6_0; rw [sb_9 (by omega), show v5 + 8 + 16 - (v5 + 8) = 16 from by omega] at h9; exact h9.symm); rw [dS_8 (k := k) (n := t) (Y := a) (s := r4 + r6 + (v2 - a + 6)) (by omega) (by omega) (by omega) (by rw [hy4, nxD_s (by omega), if_pos (by omega)]) (by omega) (by omega) (by rw [hA1, hA2, if_pos (by omega)]; omega), ← w7_0]; unfold dsu; first | (rw [if_pos (by omega)]; done) | (rw [if_neg (by omega)]; done)) | (have hA2 : aD f (rf M x) N t = r6 := (by unfold aD; rw [← htt.1, ← htt.2.1, e1, e5, if_neg (by omega), if_neg (by omega)]; have h9 := w6_0; rw [sb_9 (by omega), show v5 + 8 + 16 - (v5 + 8) = 16 from by omega] at h9; exact h9.symm); rw [dS_8 (k := k) (n := t) (Y := a) (s := r4 + r6 + (v2 - a + 17)) (by omega) (by omega) (by omega) (by rw [hy4, nxD_s (by omega), if_pos (by omega)]) (by omega) (by omega) (by rw [hA1, hA2, if_neg (by omega)]; omega), ← w7_0]; unfold dsu; first | (rw [if_pos (by omega)]; done) | (rw [if_neg (by omega)]; done)) | (exfalso; omega)))
                  · refine jr.iload rfl rfl ?_
                    refine jr.if_ne rfl rfl (by omega) (fun h251 => ?_) (fun h251 => ?_)
                    · have sx251 : (1 : Int) ≤ r7 := by omega
                      refine jr.iload rfl rfl ?_
                      exact jr.ireturn rfl rfl rfl (q _ (by omega) (by have hh := HT.f hy3 (x := h) (by omega); have htt := HT.f hy3 (x := t) (by omega); have hA1 : sb (fz (rf M x) (a + sof k)) a (N - a).toNat = r4 := (by rw [show a + sof k = r3 from by have h9 := w3_0; rw [hy1] at h9; omega, ← hy5, e2]; exact w4_0.symm); first | (have hA2 : aD f (rf M x) N t = r6 := (by unfold aD; rw [← htt.1, ← htt.2.1, e1, e5, if_pos (by omega), if_pos (by omega)]; have h9 := w6_0; rw [sb_9 (by omega), show v5 + 12 + 8 - (v5 + 12) = 8 from by omega] at h9; exact h9.symm); rw [dS_8 (k := k) (n := t) (Y := a) (s := r4 + r6 + (v2 - a + 6)) (by omega) (by omega) (by omega) (by rw [hy4, nxD_s (by omega), if_pos (by omega)]) (by omega) (by omega) (by rw [hA1, hA2, if_pos (by omega)]; omega), ← w7_0]; unfold dsu; first | (rw [if_pos (by omega)]; done) | (rw [if_neg (by omega)]; done)) | (have hA2 : aD f (rf M x) N t = r6 := (by unfold aD; rw [← htt.1, ← htt.2.1, e1, e5, if_pos (by omega), if_pos (by omega)]; have h9 := w6_0; rw [sb_9 (by omega), show v5 + 12 + 8 - (v5 + 12) = 8 from by omega] at h9; exact h9.symm); rw [dS_8 (k := k) (n := t) (Y := a) (s := r4 + r6 + (v2 - a + 17)) (by omega) (by omega) (by omega) (by rw [hy4, nxD_s (by omega), if_pos (by omega)]) (by omega) (by omega) (by rw [hA1, hA2, if_neg (by omega)]; omega), ← w7_0]; unfold dsu; first | (rw [if_pos (by omega)]; done) | (rw [if_neg (by omega)]; done)) | (have hA2 : aD f (rf M x) N t = r6 := (by unfold aD; rw [← htt.1, ← htt.2.1, e1, e5, if_neg (by omega), if_neg (by omega)]; have h9 := w6_0; rw [sb_9 (by omega), show v5 + 8 + 16 - (v5 + 8) = 16 from by omega] at h9; exact h9.symm); rw [dS_8 (k := k) (n := t) (Y := a) (s := r4 + r6 + (v2 - a + 6)) (by omega) (by omega) (by omega) (by rw [hy4, nxD_s (by omega), if_pos (by omega)]) (by omega) (by omega) (by rw [hA1, hA2, if_pos (by omega)]; omega), ← w7_0]; unfold dsu; first | (rw [if_pos (by omega)]; done) | (rw [if_neg (by omega)]; done)) | (have hA2 : aD f (rf M x) N t = r6 := (by unfold aD; rw [← htt.1, ← htt.2.1, e1, e5, if_neg (by omega), if_neg (by omega)]; have h9 := w6_0; rw [sb_9 (by omega), show v5 + 8 + 16 - (v5 + 8) = 16 from by omega] at h9; exact h9.symm); rw [dS_8 (k := k) (n := t) (Y := a) (s := r4 + r6 + (v2 - a + 17)) (by omega) (by omega) (by omega) (by rw [hy4, nxD_s (by omega), if_pos (by omega)]) (by omega) (by omega) (by rw [hA1, hA2, if_neg (by omega)]; omega), ← w7_0]; unfold dsu; first | (rw [if_pos (by omega)]; done) | (rw [if_neg (by omega)]; done)) | (exfalso; omega)))
                    · refine jr.ldcw (x := 65535) rfl rfl (by decide) ?_
                      refine jr.goto rfl rfl ?_
                      exact jr.ireturn rfl rfl rfl (q _ (by omega) (by have hh := HT.f hy3 (x := h) (by omega); have htt := HT.f hy3 (x := t) (by omega); have hA1 : sb (fz (rf M x) (a + sof k)) a (N - a).toNat = r4 := (by rw [show a + sof k = r3 from by have h9 := w3_0; rw [hy1] at h9; omega, ← hy5, e2]; exact w4_0.symm); first | (have hA2 : aD f (rf M x) N t = r6 := (by unfold aD; rw [← htt.1, ← htt.2.1, e1, e5, if_pos (by omega), if_pos (by omega)]; have h9 := w6_0; rw [sb_9 (by omega), show v5 + 12 + 8 - (v5 + 12) = 8 from by omega] at h9; exact h9.symm); rw [dS_8 (k := k) (n := t) (Y := a) (s := r4 + r6 + (v2 - a + 6)) (by omega) (by omega) (by omega) (by rw [hy4, nxD_s (by omega), if_pos (by omega)]) (by omega) (by omega) (by rw [hA1, hA2, if_pos (by omega)]; omega), ← w7_0]; unfold dsu; first | (rw [if_pos (by omega)]; done) | (rw [if_neg (by omega)]; done)) | (have hA2 : aD f (rf M x) N t = r6 := (by unfold aD; rw [← htt.1, ← htt.2.1, e1, e5, if_pos (by omega), if_pos (by omega)]; have h9 := w6_0; rw [sb_9 (by omega), show v5 + 12 + 8 - (v5 + 12) = 8 from by omega] at h9; exact h9.symm); rw [dS_8 (k := k) (n := t) (Y := a) (s := r4 + r6 + (v2 - a + 17)) (by omega) (by omega) (by omega) (by rw [hy4, nxD_s (by omega), if_pos (by omega)]) (by omega) (by omega) (by rw [hA1, hA2, if_neg (by omega)]; omega), ← w7_0]; unfold dsu; first | (rw [if_pos (by omega)]; done) | (rw [if_neg (by omega)]; done)) | (have hA2 : aD f (rf M x) N t = r6 := (by unfold aD; rw [← htt.1, ← htt.2.1, e1, e5, if_neg (by omega), if_neg (by omega)]; have h9 := w6_0; rw [sb_9 (by omega), show v5 + 8 + 16 - (v5 + 8) = 16 from by omega] at h9; exact h9.symm); rw [dS_8 (k := k) (n := t) (Y := a) (s := r4 + r6 + (v2 - a + 6)) (by omega) (by omega) (by omega) (by rw [hy4, nxD_s (by omega), if_pos (by omega)]) (by omega) (by omega) (by rw [hA1, hA2, if_pos (by omega)]; omega), ← w7_0]; unfold dsu; first | (rw [if_pos (by omega)]; done) | (rw [if_neg (by omega)]; done)) | (have hA2 : aD f (rf M x) N t = r6 := (by unfold aD; rw [← htt.1, ← htt.2.1, e1, e5, if_neg (by omega), if_neg (by omega)]; have h9 := w6_0; rw [sb_9 (by omega), show v5 + 8 + 16 - (v5 + 8) = 16 from by omega] at h9; exact h9.symm); rw [dS_8 (k := k) (n := t) (Y := a) (s := r4 + r6 + (v2 - a + 17)) (by omega) (by omega) (by omega) (by rw [hy4, nxD_s (by omega), if_pos (by omega)]) (by omega) (by omega) (by rw [hA1, hA2, if_neg (by omega)]; omega), ← w7_0]; unfold dsu; first | (rw [if_pos (by omega)]; done) | (rw [if_neg (by omega)]; done)) | (exfalso; omega)))
                · refine jr.bipush rfl (by decide) ?_
                  refine jr.goto rfl rfl ?_
                  refine jr.iadd rfl ?_
                  refine jr.i2l rfl (by omega) ?_
                  refine jr.ladd rfl ?_
                  refine jr.lstore rfl (by decide) rfl ?_
                  refine jr.lload rfl rfl ?_
                  refine jr_s rfl rfl (Or.inl rfl) ⟨Nat.le_of_ble_eq_true rfl, Nat.le_of_ble_eq_true rfl⟩ rfl rfl (jc.deep (r_turned_x hI_M hH_M hS_M  (by omega)  (fun r8 z8 w8_0 => ?_)) (by decide))
                  refine jr.istore rfl (by decide) rfl ?_
                  refine jr.iload_n rfl rfl ?_
                  refine jr.bipush rfl (by decide) ?_
                  refine jr.icmp_ne rfl rfl (by omega) (by omega) (fun h246 => ?_) (fun h246 => ?_)
                  · refine jr.iload rfl rfl ?_
                    exact jr.ireturn rfl rfl rfl (q _ (by omega) (by have hh := HT.f hy3 (x := h) (by omega); have htt := HT.f hy3 (x := t) (by omega); have hA1 : sb (fz (rf M x) (a + sof k)) a (N - a).toNat = r4 := (by rw [show a + sof k = r3 from by have h9 := w3_0; rw [hy1] at h9; omega, ← hy5, e2]; exact w4_0.symm); first | (have hA2 : aD f (rf M x) N t = r6 := (by unfold aD; rw [← htt.1, ← htt.2.1, e1, e5, if_pos (by omega), if_pos (by omega)]; have h9 := w6_0; rw [sb_9 (by omega), show v5 + 12 + 8 - (v5 + 12) = 8 from by omega] at h9; exact h9.symm); rw [dS_8 (k := k) (n := t) (Y := a) (s := r4 + r6 + (v2 - a + 6)) (by omega) (by omega) (by omega) (by rw [hy4, nxD_s (by omega), if_pos (by omega)]) (by omega) (by omega) (by rw [hA1, hA2, if_pos (by omega)]; omega), ← w8_0]; unfold dsu; first | (rw [if_pos (by omega)]; done) | (rw [if_neg (by omega)]; done)) | (have hA2 : aD f (rf M x) N t = r6 := (by unfold aD; rw [← htt.1, ← htt.2.1, e1, e5, if_pos (by omega), if_pos (by omega)]; have h9 := w6_0; rw [sb_9 (by omega), show v5 + 12 + 8 - (v5 + 12) = 8 from by omega] at h9; exact h9.symm); rw [dS_8 (k := k) (n := t) (Y := a) (s := r4 + r6 + (v2 - a + 17)) (by omega) (by omega) (by omega) (by rw [hy4, nxD_s (by omega), if_pos (by omega)]) (by omega) (by omega) (by rw [hA1, hA2, if_neg (by omega)]; omega), ← w8_0]; unfold dsu; first | (rw [if_pos (by omega)]; done) | (rw [if_neg (by omega)]; done)) | (have hA2 : aD f (rf M x) N t = r6 := (by unfold aD; rw [← htt.1, ← htt.2.1, e1, e5, if_neg (by omega), if_neg (by omega)]; have h9 := w6_0; rw [sb_9 (by omega), show v5 + 8 + 16 - (v5 + 8) = 16 from by omega] at h9; exact h9.symm); rw [dS_8 (k := k) (n := t) (Y := a) (s := r4 + r6 + (v2 - a + 6)) (by omega) (by omega) (by omega) (by rw [hy4, nxD_s (by omega), if_pos (by omega)]) (by omega) (by omega) (by rw [hA1, hA2, if_pos (by omega)]; omega), ← w8_0]; unfold dsu; first | (rw [if_pos (by omega)]; done) | (rw [if_neg (by omega)]; done)) | (have hA2 : aD f (rf M x) N t = r6 := (by unfold aD; rw [← htt.1, ← htt.2.1, e1, e5, if_neg (by omega), if_neg (by omega)]; have h9 := w6_0; rw [sb_9 (by omega), show v5 + 8 + 16 - (v5 + 8) = 16 from by omega] at h9; exact h9.symm); rw [dS_8 (k := k) (n := t) (Y := a) (s := r4 + r6 + (v2 - a + 17)) (by omega) (by omega) (by omega) (by rw [hy4, nxD_s (by omega), if_pos (by omega)]) (by omega) (by omega) (by rw [hA1, hA2, if_neg (by omega)]; omega), ← w8_0]; unfold dsu; first | (rw [if_pos (by omega)]; done) | (rw [if_neg (by omega)]; done)) | (exfalso; omega)))
                  · exact absurd (by omega) h246
          · refine jr.lload rfl rfl ?_
            refine jr_s rfl rfl (Or.inl rfl) ⟨Nat.le_of_ble_eq_true rfl, Nat.le_of_ble_eq_true rfl⟩ rfl rfl (jc.deep (r_turned_x hI_M hH_M hS_M  (by omega)  (fun r9 z9 w9_0 => ?_)) (by decide))
            exact jr.ireturn rfl rfl rfl (q _ (by omega) (by have hh := HT.f hy3 (x := h) (by omega); rw [dS_7 (Y := a) (by omega) (by omega) (by omega), ← show k = 7 from by omega, show a + sof k = r3 from by have h9 := w3_0; rw [hy1] at h9; omega, ← hy5, e2, ← w4_0, ← w9_0]))
        · exact absurd (by omega) h96
      · refine jr.aload_n rfl rfl ?_
        refine jr.getf (i := 7) (v := .ref 603) rfl rfl (by decide) rfl (by decide) rfl rfl rfl rfl ?_
        refine jr.iload rfl rfl ?_
        refine jr.iald (i := t) (x := v1) rfl (by decide) rfl (by decide) (by omega) (by omega) e1 ?_
        refine jr.iconst rfl ?_
        refine jr.icmp_eq rfl rfl (by omega) (by omega) (fun h85 => ?_) (fun h85 => ?_)
        · refine jr.iload rfl rfl ?_
          refine jr.if_ge rfl rfl (by omega) (fun h96 => ?_) (fun h96 => ?_)
          · refine jr.aload_n rfl rfl ?_
            refine jr.iload_n rfl rfl ?_
            refine jr.iload rfl rfl ?_
            refine jr.aload_n rfl rfl ?_
            refine jr.getf (i := 3) (v := .ref 600) rfl rfl (by decide) rfl (by decide) rfl rfl rfl rfl ?_
            refine jr.iload_n rfl rfl ?_
            obtain ⟨v10, e10⟩ : ∃ z, M 600 x = z := ⟨_, rfl⟩
            have b10 : (-1) ≤ v10 ∧ v10 ≤ 400 := by rw [← e10]; exact (by have q := hI_M 600 x (by decide); rw [xri_row rfl rfl] at q; exact q)
            refine jr.iald (i := x) (x := v10) rfl (by decide) rfl (by decide) (by omega) (by omega) e10 ?_
            refine jr.aload_n rfl rfl ?_
            refine jr.iload_n rfl rfl ?_
            refine jr_v rfl rfl (Or.inl rfl) rfl rfl (by decide) rfl ⟨rfl, Nat.le_of_ble_eq_true rfl, Nat.le_of_ble_eq_true rfl⟩ rfl (jc.deep (r_sumAt_x hI_M hH_M hS_M  (by omega)  (fun r11 z11 w11_0 => ?_)) (by decide))
            refine jr_v rfl rfl (Or.inl rfl) rfl rfl (by decide) rfl ⟨rfl, Nat.le_of_ble_eq_true rfl, Nat.le_of_ble_eq_true rfl⟩ rfl (jc.deep (r_added_x hI_M hH_M hS_M  (by omega) (by omega) (by omega) (by omega) (by omega) (fun r12 z12 w12_0 => ?_)) (by decide))
            refine jr.lstore rfl (by decide) rfl ?_
            refine jr.iload_n rfl rfl ?_
            refine jr.bipush rfl (by decide) ?_
            refine jr.icmp_ne rfl rfl (by omega) (by omega) (fun h124 => ?_) (fun h124 => ?_)
            · refine jr.aload_n rfl rfl ?_
              refine jr.getf (i := 7) (v := .ref 603) rfl rfl (by decide) rfl (by decide) rfl rfl rfl rfl ?_
              refine jr.iload rfl rfl ?_
              refine jr.iald (i := t) (x := v1) rfl (by decide) rfl (by decide) (by omega) (by omega) e1 ?_
              refine jr.iconst rfl ?_
              refine jr.icmp_ne rfl rfl (by omega) (by omega) (fun h141 => ?_) (fun h141 => ?_)
              · refine jr.aload_n rfl rfl ?_
                refine jr.getf (i := 8) (v := .ref 604) rfl rfl (by decide) rfl (by decide) rfl rfl rfl rfl ?_
                refine jr.iload rfl rfl ?_
                obtain ⟨v13, e13⟩ : ∃ z, M 604 t = z := ⟨_, rfl⟩
                have b13 : 0 ≤ v13 ∧ v13 ≤ 400 := by rw [← e13]; exact (by have q := hI_M 604 t (by decide); rw [xri_row rfl rfl] at q; exact q)
                refine jr.iald (i := t) (x := v13) rfl (by decide) rfl (by decide) (by omega) (by omega) e13 ?_
                refine jr.bipush rfl (by decide) ?_
                refine jr.iadd rfl ?_
                refine jr.istore rfl (by decide) rfl ?_
                refine jr.lload rfl rfl ?_
                refine jr.aload_n rfl rfl ?_
                refine jr.iload_n rfl rfl ?_
                refine jr.iload rfl rfl ?_
                refine jr.aload_n rfl rfl ?_
                refine jr.getf (i := 7) (v := .ref 603) rfl rfl (by decide) rfl (by decide) rfl rfl rfl rfl ?_
                refine jr.iload rfl rfl ?_
                refine jr.iald (i := t) (x := v1) rfl (by decide) rfl (by decide) (by omega) (by omega) e1 ?_
                refine jr.iconst rfl ?_
                refine jr.icmp_ne rfl rfl (by omega) (by omega) (fun h183 => ?_) (fun h183 => ?_)
                · refine jr.iload rfl rfl ?_
                  refine jr.bipush rfl (by decide) ?_
                  refine jr.iadd rfl ?_
                  refine jr.bipush rfl (by decide) ?_
                  refine jr_v rfl rfl (Or.inl rfl) rfl rfl (by decide) rfl ⟨rfl, Nat.le_of_ble_eq_true rfl, Nat.le_of_ble_eq_true rfl⟩ rfl (jc.deep (r_added_x hI_M hH_M hS_M  (by omega) (by omega) (by omega) (by omega) (by omega) (fun r14 z14 w14_0 => ?_)) (by decide))
                  refine jr.ladd rfl ?_
                  refine jr.lstore rfl (by decide) rfl ?_
                  refine jr.lload rfl rfl ?_
                  refine jr.aload_n rfl rfl ?_
                  refine jr.getf (i := 3) (v := .ref 600) rfl rfl (by decide) rfl (by decide) rfl rfl rfl rfl ?_
                  refine jr.iload_n rfl rfl ?_
                  refine jr.iald (i := x) (x := v10) rfl (by decide) rfl (by decide) (by omega) (by omega) e10 ?_
                  refine jr.iload rfl rfl ?_
                  refine jr.isub rfl ?_
                  refine jr.iload_n rfl rfl ?_
                  refine jr.bipush rfl (by decide) ?_
                  refine jr.icmp_ne rfl rfl (by omega) (by omega) (fun h221 => ?_) (fun h221 => ?_)
                  · refine jr.bipush rfl (by decide) ?_
                    refine jr.iadd rfl ?_
                    refine jr.i2l rfl (by omega) ?_
                    refine jr.ladd rfl ?_
                    refine jr.lstore rfl (by decide) rfl ?_
                    refine jr.lload rfl rfl ?_
                    refine jr_s rfl rfl (Or.inl rfl) ⟨Nat.le_of_ble_eq_true rfl, Nat.le_of_ble_eq_true rfl⟩ rfl rfl (jc.deep (r_turned_x hI_M hH_M hS_M  (by omega)  (fun r15 z15 w15_0 => ?_)) (by decide))
                    refine jr.istore rfl (by decide) rfl ?_
                    refine jr.iload_n rfl rfl ?_
                    refine jr.bipush rfl (by decide) ?_
                    refine jr.icmp_ne rfl rfl (by omega) (by omega) (fun h246 => ?_) (fun h246 => ?_)
                    · refine jr.iload rfl rfl ?_
                      exact jr.ireturn rfl rfl rfl (q _ (by omega) (by have hh := HT.f hy3 (x := h) (by omega); have htt := HT.f hy3 (x := t) (by omega); have hA1 : sb (fz (rf M x) (a + sof k)) a (N - a).toNat = r12 := (by rw [show a + sof k = r11 from by have h9 := w11_0; rw [hy1] at h9; omega, ← hy5, e10]; exact w12_0.symm); first | (have hA2 : aD f (rf M x) N t = r14 := (by unfold aD; rw [← htt.1, ← htt.2.1, e1, e13, if_pos (by omega), if_pos (by omega)]; have h9 := w14_0; rw [sb_9 (by omega), show v13 + 12 + 8 - (v13 + 12) = 8 from by omega] at h9; exact h9.symm); rw [dS_8 (k := k) (n := t) (Y := a) (s := r12 + r14 + (v10 - a + 6)) (by omega) (by omega) (by omega) (by rw [hy4, nxD_s (by omega), if_pos (by omega)]) (by omega) (by omega) (by rw [hA1, hA2, if_pos (by omega)]; omega), ← w15_0]; unfold dsu; first | (rw [if_pos (by omega)]; done) | (rw [if_neg (by omega)]; done)) | (have hA2 : aD f (rf M x) N t = r14 := (by unfold aD; rw [← htt.1, ← htt.2.1, e1, e13, if_pos (by omega), if_pos (by omega)]; have h9 := w14_0; rw [sb_9 (by omega), show v13 + 12 + 8 - (v13 + 12) = 8 from by omega] at h9; exact h9.symm); rw [dS_8 (k := k) (n := t) (Y := a) (s := r12 + r14 + (v10 - a + 17)) (by omega) (by omega) (by omega) (by rw [hy4, nxD_s (by omega), if_pos (by omega)]) (by omega) (by omega) (by rw [hA1, hA2, if_neg (by omega)]; omega), ← w15_0]; unfold dsu; first | (rw [if_pos (by omega)]; done) | (rw [if_neg (by omega)]; done)) | (have hA2 : aD f (rf M x) N t = r14 := (by unfold aD; rw [← htt.1, ← htt.2.1, e1, e13, if_neg (by omega), if_neg (by omega)]; have h9 := w14_0; rw [sb_9 (by omega), show v13 + 8 + 16 - (v13 + 8) = 16 from by omega] at h9; exact h9.symm); rw [dS_8 (k := k) (n := t) (Y := a) (s := r12 + r14 + (v10 - a + 6)) (by omega) (by omega) (by omega) (by rw [hy4, nxD_s (by omega), if_pos (by omega)]) (by omega) (by omega) (by rw [hA1, hA2, if_pos (by omega)]; omega), ← w15_0]; unfold dsu; first | (rw [if_pos (by omega)]; done) | (rw [if_neg (by omega)]; done)) | (have hA2 : aD f (rf M x) N t = r14 := (by unfold aD; rw [← htt.1, ← htt.2.1, e1, e13, if_neg (by omega), if_neg (by omega)]; have h9 := w14_0; rw [sb_9 (by omega), show v13 + 8 + 16 - (v13 + 8) = 16 from by omega] at h9; exact h9.symm); rw [dS_8 (k := k) (n := t) (Y := a) (s := r12 + r14 + (v10 - a + 17)) (by omega) (by omega) (by omega) (by rw [hy4, nxD_s (by omega), if_pos (by omega)]) (by omega) (by omega) (by rw [hA1, hA2, if_neg (by omega)]; omega), ← w15_0]; unfold dsu; first | (rw [if_pos (by omega)]; done) | (rw [if_neg (by omega)]; done)) | (exfalso; omega)))
                    · refine jr.iload rfl rfl ?_
                      refine jr.if_ne rfl rfl (by omega) (fun h251 => ?_) (fun h251 => ?_)
                      · have sx251 : (1 : Int) ≤ r15 := by omega
                        refine jr.iload rfl rfl ?_
                        exact jr.ireturn rfl rfl rfl (q _ (by omega) (by have hh := HT.f hy3 (x := h) (by omega); have htt := HT.f hy3 (x := t) (by omega); have hA1 : sb (fz (rf M x) (a + sof k)) a (N - a).toNat = r12 := (by rw [show a + sof k = r11 from by have h9 := w11_0; rw [hy1] at h9; omega, ← hy5, e10]; exact w12_0.symm); first | (have hA2 : aD f (rf M x) N t = r14 := (by unfold aD; rw [← htt.1, ← htt.2.1, e1, e13, if_pos (by omega), if_pos (by omega)]; have h9 := w14_0; rw [sb_9 (by omega), show v13 + 12 + 8 - (v13 + 12) = 8 from by omega] at h9; exact h9.symm); rw [dS_8 (k := k) (n := t) (Y := a) (s := r12 + r14 + (v10 - a + 6)) (by omega) (by omega) (by omega) (by rw [hy4, nxD_s (by omega), if_pos (by omega)]) (by omega) (by omega) (by rw [hA1, hA2, if_pos (by omega)]; omega), ← w15_0]; unfold dsu; first | (rw [if_pos (by omega)]; done) | (rw [if_neg (by omega)]; done)) | (have hA2 : aD f (rf M x) N t = r14 := (by unfold aD; rw [← htt.1, ← htt.2.1, e1, e13, if_pos (by omega), if_pos (by omega)]; have h9 := w14_0; rw [sb_9 (by omega), show v13 + 12 + 8 - (v13 + 12) = 8 from by omega] at h9; exact h9.symm); rw [dS_8 (k := k) (n := t) (Y := a) (s := r12 + r14 + (v10 - a + 17)) (by omega) (by omega) (by omega) (by rw [hy4, nxD_s (by omega), if_pos (by omega)]) (by omega) (by omega) (by rw [hA1, hA2, if_neg (by omega)]; omega), ← w15_0]; unfold dsu; first | (rw [if_pos (by omega)]; done) | (rw [if_neg (by omega)]; done)) | (have hA2 : aD f (rf M x) N t = r14 := (by unfold aD; rw [← htt.1, ← htt.2.1, e1, e13, if_neg (by omega), if_neg (by omega)]; have h9 := w14_0; rw [sb_9 (by omega), show v13 + 8 + 16 - (v13 + 8) = 16 from by omega] at h9; exact h9.symm); rw [dS_8 (k := k) (n := t) (Y := a) (s := r12 + r14 + (v10 - a + 6)) (by omega) (by omega) (by omega) (by rw [hy4, nxD_s (by omega), if_pos (by omega)]) (by omega) (by omega) (by rw [hA1, hA2, if_pos (by omega)]; omega), ← w15_0]; unfold dsu; first | (rw [if_pos (by omega)]; done) | (rw [if_neg (by omega)]; done)) | (have hA2 : aD f (rf M x) N t = r14 := (by unfold aD; rw [← htt.1, ← htt.2.1, e1, e13, if_neg (by omega), if_neg (by omega)]; have h9 := w14_0; rw [sb_9 (by omega), show v13 + 8 + 16 - (v13 + 8) = 16 from by omega] at h9; exact h9.symm); rw [dS_8 (k := k) (n := t) (Y := a) (s := r12 + r14 + (v10 - a + 17)) (by omega) (by omega) (by omega) (by rw [hy4, nxD_s (by omega), if_pos (by omega)]) (by omega) (by omega) (by rw [hA1, hA2, if_neg (by omega)]; omega), ← w15_0]; unfold dsu; first | (rw [if_pos (by omega)]; done) | (rw [if_neg (by omega)]; done)) | (exfalso; omega)))
                      · refine jr.ldcw (x := 65535) rfl rfl (by decide) ?_
                        refine jr.goto rfl rfl ?_
                        exact jr.ireturn rfl rfl rfl (q _ (by omega) (by have hh := HT.f hy3 (x := h) (by omega); have htt := HT.f hy3 (x := t) (by omega); have hA1 : sb (fz (rf M x) (a + sof k)) a (N - a).toNat = r12 := (by rw [show a + sof k = r11 from by have h9 := w11_0; rw [hy1] at h9; omega, ← hy5, e10]; exact w12_0.symm); first | (have hA2 : aD f (rf M x) N t = r14 := (by unfold aD; rw [← htt.1, ← htt.2.1, e1, e13, if_pos (by omega), if_pos (by omega)]; have h9 := w14_0; rw [sb_9 (by omega), show v13 + 12 + 8 - (v13 + 12) = 8 from by omega] at h9; exact h9.symm); rw [dS_8 (k := k) (n := t) (Y := a) (s := r12 + r14 + (v10 - a + 6)) (by omega) (by omega) (by omega) (by rw [hy4, nxD_s (by omega), if_pos (by omega)]) (by omega) (by omega) (by rw [hA1, hA2, if_pos (by omega)]; omega), ← w15_0]; unfold dsu; first | (rw [if_pos (by omega)]; done) | (rw [if_neg (by omega)]; done)) | (have hA2 : aD f (rf M x) N t = r14 := (by unfold aD; rw [← htt.1, ← htt.2.1, e1, e13, if_pos (by omega), if_pos (by omega)]; have h9 := w14_0; rw [sb_9 (by omega), show v13 + 12 + 8 - (v13 + 12) = 8 from by omega] at h9; exact h9.symm); rw [dS_8 (k := k) (n := t) (Y := a) (s := r12 + r14 + (v10 - a + 17)) (by omega) (by omega) (by omega) (by rw [hy4, nxD_s (by omega), if_pos (by omega)]) (by omega) (by omega) (by rw [hA1, hA2, if_neg (by omega)]; omega), ← w15_0]; unfold dsu; first | (rw [if_pos (by omega)]; done) | (rw [if_neg (by omega)]; done)) | (have hA2 : aD f (rf M x) N t = r14 := (by unfold aD; rw [← htt.1, ← htt.2.1, e1, e13, if_neg (by omega), if_neg (by omega)]; have h9 := w14_0; rw [sb_9 (by omega), show v13 + 8 + 16 - (v13 + 8) = 16 from by omega] at h9; exact h9.symm); rw [dS_8 (k := k) (n := t) (Y := a) (s := r12 + r14 + (v10 - a + 6)) (by omega) (by omega) (by omega) (by rw [hy4, nxD_s (by omega), if_pos (by omega)]) (by omega) (by omega) (by rw [hA1, hA2, if_pos (by omega)]; omega), ← w15_0]; unfold dsu; first | (rw [if_pos (by omega)]; done) | (rw [if_neg (by omega)]; done)) | (have hA2 : aD f (rf M x) N t = r14 := (by unfold aD; rw [← htt.1, ← htt.2.1, e1, e13, if_neg (by omega), if_neg (by omega)]; have h9 := w14_0; rw [sb_9 (by omega), show v13 + 8 + 16 - (v13 + 8) = 16 from by omega] at h9; exact h9.symm); rw [dS_8 (k := k) (n := t) (Y := a) (s := r12 + r14 + (v10 - a + 17)) (by omega) (by omega) (by omega) (by rw [hy4, nxD_s (by omega), if_pos (by omega)]) (by omega) (by omega) (by rw [hA1, hA2, if_neg (by omega)]; omega), ← w15_0]; unfold dsu; first | (rw [if_pos (by omega)]; done) | (rw [if_neg (by omega)]; done)) | (exfalso; omega)))
                  · refine jr.bipush rfl (by decide) ?_
                    refine jr.goto rfl rfl ?_
                    refine jr.iadd rfl ?_
                    refine jr.i2l rfl (by omega) ?_
                    refine jr.ladd rfl ?_
                    refine jr.lstore rfl (by decide) rfl ?_
                    refine jr.lload rfl rfl ?_
                    refine jr_s rfl rfl (Or.inl rfl) ⟨Nat.le_of_ble_eq_true rfl, Nat.le_of_ble_eq_true rfl⟩ rfl rfl (jc.deep (r_turned_x hI_M hH_M hS_M  (by omega)  (fun r16 z16 w16_0 => ?_)) (by decide))
                    refine jr.istore rfl (by decide) rfl ?_
                    refine jr.iload_n rfl rfl ?_
                    refine jr.bipush rfl (by decide) ?_
                    refine jr.icmp_ne rfl rfl (by omega) (by omega) (fun h246 => ?_) (fun h246 => ?_)
                    · refine jr.iload rfl rfl ?_
                      exact jr.ireturn rfl rfl rfl (q _ (by omega) (by have hh := HT.f hy3 (x := h) (by omega); have htt := HT.f hy3 (x := t) (by omega); have hA1 : sb (fz (rf M x) (a + sof k)) a (N - a).toNat = r12 := (by rw [show a + sof k = r11 from by have h9 := w11_0; rw [hy1] at h9; omega, ← hy5, e10]; exact w12_0.symm); first | (have hA2 : aD f (rf M x) N t = r14 := (by unfold aD; rw [← htt.1, ← htt.2.1, e1, e13, if_pos (by omega), if_pos (by omega)]; have h9 := w14_0; rw [sb_9 (by omega), show v13 + 12 + 8 - (v13 + 12) = 8 from by omega] at h9; exact h9.symm); rw [dS_8 (k := k) (n := t) (Y := a) (s := r12 + r14 + (v10 - a + 6)) (by omega) (by omega) (by omega) (by rw [hy4, nxD_s (by omega), if_pos (by omega)]) (by omega) (by omega) (by rw [hA1, hA2, if_pos (by omega)]; omega), ← w16_0]; unfold dsu; first | (rw [if_pos (by omega)]; done) | (rw [if_neg (by omega)]; done)) | (have hA2 : aD f (rf M x) N t = r14 := (by unfold aD; rw [← htt.1, ← htt.2.1, e1, e13, if_pos (by omega), if_pos (by omega)]; have h9 := w14_0; rw [sb_9 (by omega), show v13 + 12 + 8 - (v13 + 12) = 8 from by omega] at h9; exact h9.symm); rw [dS_8 (k := k) (n := t) (Y := a) (s := r12 + r14 + (v10 - a + 17)) (by omega) (by omega) (by omega) (by rw [hy4, nxD_s (by omega), if_pos (by omega)]) (by omega) (by omega) (by rw [hA1, hA2, if_neg (by omega)]; omega), ← w16_0]; unfold dsu; first | (rw [if_pos (by omega)]; done) | (rw [if_neg (by omega)]; done)) | (have hA2 : aD f (rf M x) N t = r14 := (by unfold aD; rw [← htt.1, ← htt.2.1, e1, e13, if_neg (by omega), if_neg (by omega)]; have h9 := w14_0; rw [sb_9 (by omega), show v13 + 8 + 16 - (v13 + 8) = 16 from by omega] at h9; exact h9.symm); rw [dS_8 (k := k) (n := t) (Y := a) (s := r12 + r14 + (v10 - a + 6)) (by omega) (by omega) (by omega) (by rw [hy4, nxD_s (by omega), if_pos (by omega)]) (by omega) (by omega) (by rw [hA1, hA2, if_pos (by omega)]; omega), ← w16_0]; unfold dsu; first | (rw [if_pos (by omega)]; done) | (rw [if_neg (by omega)]; done)) | (have hA2 : aD f (rf M x) N t = r14 := (by unfold aD; rw [← htt.1, ← htt.2.1, e1, e13, if_neg (by omega), if_neg (by omega)]; have h9 := w14_0; rw [sb_9 (by omega), show v13 + 8 + 16 - (v13 + 8) = 16 from by omega] at h9; exact h9.symm); rw [dS_8 (k := k) (n := t) (Y := a) (s := r12 + r14 + (v10 - a + 17)) (by omega) (by omega) (by omega) (by rw [hy4, nxD_s (by omega), if_pos (by omega)]) (by omega) (by omega) (by rw [hA1, hA2, if_neg (by omega)]; omega), ← w16_0]; unfold dsu; first | (rw [if_pos (by omega)]; done) | (rw [if_neg (by omega)]; done)) | (exfalso; omega)))
                    · exact absurd (by omega) h246
                · exact absurd (by omega) h183
              · exact absurd (by omega) h141
            · refine jr.lload rfl rfl ?_
              refine jr_s rfl rfl (Or.inl rfl) ⟨Nat.le_of_ble_eq_true rfl, Nat.le_of_ble_eq_true rfl⟩ rfl rfl (jc.deep (r_turned_x hI_M hH_M hS_M  (by omega)  (fun r17 z17 w17_0 => ?_)) (by decide))
              exact jr.ireturn rfl rfl rfl (q _ (by omega) (by have hh := HT.f hy3 (x := h) (by omega); rw [dS_7 (Y := a) (by omega) (by omega) (by omega), ← show k = 7 from by omega, show a + sof k = r11 from by have h9 := w11_0; rw [hy1] at h9; omega, ← hy5, e10, ← w12_0, ← w17_0]))
          · exact absurd (by omega) h96
        · refine jr.iinc rfl rfl (by decide) rfl ?_
          refine jr.goto rfl rfl ?_
          refine jr.pick [0, 1, 2, 3, 4, 5] rfl rfl ?_
          exact ih (nM - 1) (by omega) (t + (-1)) a k h x (by omega) (by omega) (by omega) (by omega) (by omega) (by omega) (by omega) (by omega) hy3 (by have htt := HT.f hy3 (x := t) (by omega); rw [hy4, nxD_s (by omega), if_neg (by omega), show t + -1 + 1 = t from by omega]) (by omega) (by omega) (by omega) (by omega) (by omega) (by omega)
theorem r_sumOf_x {A : Nat → Option (Nat × (Nat → Int32))} {Q : Option Value → jm → Prop} {f : Int → Int} {N C : Int} {M : jm} (hI_M : RI M) (hH_M : RH M) (hS_M : RF M) {x : Int} (h_x : 0 ≤ x ∧ x ≤ 23) {h : Int} (h_h : 0 ≤ h ∧ h ≤ 11) (p0 : HT M f N C) (p1 : h < C) (p2 : M 600 x = N) (q : ∀ (r : Int), (-1) ≤ r ∧ r ≤ 65535 → r = dS f (rf M x) N C h → Q (some (.int (Int32.ofInt r))) M) : jc A 3 282 [.ref (598), .int (Int32.ofInt (x)), .int (Int32.ofInt (h))] M Q := by
  have rh := (hH_M h).2
  have hh0 := HT.f p0 (x := h) (by omega)
  have hN4 := p0.2.2.1
  refine jc_of (m := xm_282) rfl (Nat.le_of_ble_eq_true rfl) rfl ?_
  refine jr.aload_n rfl rfl ?_
  refine jr.getf (i := 7) (v := .ref 603) rfl rfl (by decide) rfl (by decide) rfl rfl rfl rfl ?_
  refine jr.iload_n rfl rfl ?_
  obtain ⟨v1, e1⟩ : ∃ z, M 603 h = z := ⟨_, rfl⟩
  have b1 : 0 ≤ v1 ∧ v1 ≤ 11 := by rw [← e1]; exact (by have q := hI_M 603 h (by decide); rw [xri_row rfl rfl] at q; exact q)
  refine jr.iald (i := h) (x := v1) rfl (by decide) rfl (by decide) (by omega) (by omega) e1 ?_
  refine jr.istore_n rfl (by decide) rfl ?_
  refine jr.aload_n rfl rfl ?_
  refine jr.getf (i := 8) (v := .ref 604) rfl rfl (by decide) rfl (by decide) rfl rfl rfl rfl ?_
  refine jr.iload_n rfl rfl ?_
  obtain ⟨v2, e2⟩ : ∃ z, M 604 h = z := ⟨_, rfl⟩
  have b2 : 0 ≤ v2 ∧ v2 ≤ 400 := by rw [← e2]; exact (by have q := hI_M 604 h (by decide); rw [xri_row rfl rfl] at q; exact q)
  refine jr.iald (i := h) (x := v2) rfl (by decide) rfl (by decide) (by omega) (by omega) e2 ?_
  refine jr.istore rfl (by decide) rfl ?_
  refine jr.aload_n rfl rfl ?_
  refine jr.iload_n rfl rfl ?_
  refine jr_v rfl rfl (Or.inl rfl) rfl rfl (by decide) rfl ⟨rfl, Nat.le_of_ble_eq_true rfl, Nat.le_of_ble_eq_true rfl⟩ rfl (jc.deep (r_sumAt_x hI_M hH_M hS_M  (by omega)  (fun r3 z3 w3_0 => ?_)) (by decide))
  refine jr.iconst rfl ?_
  refine jr.icmp_ne rfl rfl (by omega) (by omega) (fun h21 => ?_) (fun h21 => ?_)
  · have sx21 : (0 : Int) ≤ r3 := by omega
    refine jr.iload_n rfl rfl ?_
    refine jr.iconst rfl ?_
    refine jr.icmp_ne rfl rfl (by omega) (by omega) (fun h28 => ?_) (fun h28 => ?_)
    · refine jr.iload_n rfl rfl ?_
      refine jr.iconst rfl ?_
      refine jr.isub rfl ?_
      refine jr.istore rfl (by decide) rfl ?_
      refine jr.pick [0, 1, 2, 5, 4, 3] rfl rfl ?_
      exact r_sumOf_L61_x hI_M hH_M hS_M q 12 (h - 1) v2 v1 h x (by omega) (by omega) (by omega) (by omega) (by omega) (by omega) (by omega) (by omega) p0 (by rw [show h - 1 + 1 = h from by omega]) (by omega) (by omega) (by omega) (by omega) (by omega) (by omega)
    · refine jr.aload_n rfl rfl ?_
      refine jr.iload_n rfl rfl ?_
      refine jr.iload rfl rfl ?_
      refine jr.iload rfl rfl ?_
      refine jr.aload_n rfl rfl ?_
      refine jr.getf (i := 9) (v := .ref 605) rfl rfl (by decide) rfl (by decide) rfl rfl rfl rfl ?_
      refine jr.iload_n rfl rfl ?_
      obtain ⟨v4, e4⟩ : ∃ z, M 605 h = z := ⟨_, rfl⟩
      have b4 : 0 ≤ v4 ∧ v4 ≤ 400 := by rw [← e4]; exact (by have q := hI_M 605 h (by decide); rw [xri_row rfl rfl] at q; exact q)
      refine jr.iald (i := h) (x := v4) rfl (by decide) rfl (by decide) (by omega) (by omega) e4 ?_
      refine jr.iadd rfl ?_
      refine jr.iload rfl rfl ?_
      refine jr.bipush rfl (by decide) ?_
      refine jr.iadd rfl ?_
      refine jr_v rfl rfl (Or.inl rfl) rfl rfl (by decide) rfl ⟨rfl, Nat.le_of_ble_eq_true rfl, Nat.le_of_ble_eq_true rfl⟩ rfl (jc.deep (r_added_x hI_M hH_M hS_M  (by omega) (by omega) (by omega) (by omega) (by omega) (fun r5 z5 w5_0 => ?_)) (by decide))
      refine jr_s rfl rfl (Or.inl rfl) ⟨Nat.le_of_ble_eq_true rfl, Nat.le_of_ble_eq_true rfl⟩ rfl rfl (jc.deep (r_turned_x hI_M hH_M hS_M  (by omega)  (fun r6 z6 w6_0 => ?_)) (by decide))
      exact jr.ireturn rfl rfl rfl (q _ (by omega) (by have hh := HT.f p0 (x := h) (by omega); rw [dS_2 (Y := v2) (Z := v4) (by omega) (by omega) (by omega) (by omega), ← w5_0, ← w6_0]))
  · refine jr.iconst rfl ?_
    exact jr.ireturn rfl rfl rfl (q _ (by omega) (by have hh := HT.f p0 (x := h) (by omega); exact (dS_o (k := v1) (by omega) (by omega) (by omega)).symm))
end
section
/-! ===== the reference: right, repair ===== -/
theorem r_layTwo_x {A : Nat → Option (Nat × (Nat → Int32))} {Q : Option Value → jm → Prop} {M : jm} (hI_M : RI M) (hH_M : RH M) (hS_M : RF M) {x : Int} (h_x : 0 ≤ x ∧ x ≤ 23) {i : Int} (h_i : 0 ≤ i ∧ i ≤ 398) {w : Int} (h_w : (-2147483648) ≤ w ∧ w ≤ 2147483647) (q : ∀ (M' : jm), RI M' → RH M' → RF M' → rf M' x = ptn (rf M x) i 2 w → OX M M' x → (∀ (a : Nat) (i : Int), a ≠ 601 → M' a i = M a i) → Q none M') : jc A 1 257 [.ref (598), .int (Int32.ofInt (x)), .int (Int32.ofInt (i)), .int (Int32.ofInt (w))] M Q := by
  refine jc_of (m := xm_257) rfl (Nat.le_of_ble_eq_true rfl) rfl ?_
  refine jr.aload_n rfl rfl ?_
  refine jr.getf (i := 4) (v := .ref 601) rfl rfl (by decide) rfl (by decide) rfl rfl rfl rfl ?_
  refine jr.sipush rfl (by decide) ?_
  refine jr.iload_n rfl rfl ?_
  refine jr.imul rfl ?_
  refine jr.iload_n rfl rfl ?_
  refine jr.iadd rfl ?_
  refine jr.iload_n rfl rfl ?_
  refine jr.bipush rfl (by decide) ?_
  refine jr.ishr rfl ?_
  have b1 : j_shr w 8 = w / 256 := j_shr_ex 8 (by decide) (by omega) (by omega)
  generalize j_shr w 8 = v1 at b1 ⊢
  refine jr.sipush rfl (by decide) ?_
  refine jr.iand rfl ?_
  have b2 : j_and v1 255 = v1 % 256 := j_and_m 8 (by decide) _
  generalize j_and v1 255 = v2 at b2 ⊢
  refine jr.iast (i := ((400 * x) + i)) (x := v2) rfl (by decide) rfl (by decide) (by omega) (by omega) ?_
  refine jr.aload_n rfl rfl ?_
  refine jr.getf (i := 4) (v := .ref 601) rfl rfl (by decide) rfl (by decide) rfl rfl rfl rfl ?_
  refine jr.sipush rfl (by decide) ?_
  refine jr.iload_n rfl rfl ?_
  refine jr.imul rfl ?_
  refine jr.iload_n rfl rfl ?_
  refine jr.iadd rfl ?_
  refine jr.iconst rfl ?_
  refine jr.iadd rfl ?_
  refine jr.iload_n rfl rfl ?_
  refine jr.sipush rfl (by decide) ?_
  refine jr.iand rfl ?_
  have b3 : j_and w 255 = w % 256 := j_and_m 8 (by decide) _
  generalize j_and w 255 = v3 at b3 ⊢
  refine jr.iast (i := (((400 * x) + i) + 1)) (x := v3) rfl (by decide) rfl (by decide) (by omega) (by omega) ?_
  exact jr.vreturn rfl rfl (q _ (RI.u (RI.u hI_M (a := 601) (i := ((400 * x) + i)) (by rw [xri_row rfl rfl]; show (0 : Int) ≤ _ ∧ _ ≤ (255 : Int); omega)) (a := 601) (i := (((400 * x) + i) + 1)) (by rw [xri_row rfl rfl]; show (0 : Int) ≤ _ ∧ _ ≤ (255 : Int); omega)) (RH.o (RH.o hH_M (by decide) (by decide) (by decide)) (by decide) (by decide) (by decide)) (RF.o (RF.o hS_M (by decide) (by decide)) (by decide) (by decide))  (by exact lay2 (by show _ = w / 256 % 256; omega) (by show _ = w % 256; omega)) (fun j hj => (ju_i _ _ (by omega)).trans (ju_i _ _ (by omega))) (fun a i f601 => ((ju_c _ _ f601).trans ((ju_c _ _ f601).trans rfl))))
theorem r_sum_x {A : Nat → Option (Nat × (Nat → Int32))} {Q : Option Value → jm → Prop} {M : jm} (hI_M : RI M) (hH_M : RH M) (hS_M : RF M) {x : Int} (h_x : (-2147483648) ≤ x ∧ x ≤ 2147483647) {h : Int} (h_h : (-2147483648) ≤ h ∧ h ≤ 2147483647) (q : ∀ (r : Int) (M' : jm), RI M' → RH M' → RF M' → (-2) ≤ r ∧ r ≤ 65535 → (((x < 0 ∨ 23 < x ∨ M 600 x = -1) ∧ r = -2) ∨ (((0 ≤ x ∧ x ≤ 23) ∧ M 600 x ≠ -1) ∧ ∃ C : Int, HE (rf M x) (M 600 x) C ∧ r = dS (rf M x) (rf M x) (M 600 x) C h)) → (∀ (a : Nat) (i : Int), a ≠ 598 → a ≠ 603 → a ≠ 604 → a ≠ 605 → M' a i = M a i) → (∀ (i : Int), i ≠ 6 → i ≠ 10 → i ≠ 11 → i ≠ 12 → M' 598 i = M 598 i) → Q (some (.int (Int32.ofInt r))) M') : jc A 5 283 [.ref (598), .int (Int32.ofInt (x)), .int (Int32.ofInt (h))] M Q := by
  refine jc_of (m := xm_283) rfl (Nat.le_of_ble_eq_true rfl) rfl ?_
  refine jr.aload_n rfl rfl ?_
  refine jr.iload_n rfl rfl ?_
  refine jr_v rfl rfl (Or.inl rfl) rfl rfl (by decide) rfl ⟨rfl, Nat.le_of_ble_eq_true rfl, Nat.le_of_ble_eq_true rfl⟩ rfl (jc.deep (c_isThere hI_M (by omega) (fun l2 u2 t2 => ?_) (fun n2 => ?_)) (by decide))
  · refine jr.if_ne rfl rfl (by omega) (fun _ => ?_) (fun h => absurd (by decide) h)
    refine jr.aload_n rfl rfl ?_
    refine jr.iload_n rfl rfl ?_
    obtain ⟨v2, e2⟩ : ∃ z, M 600 x = z := ⟨_, rfl⟩
    have b2 : (-1) ≤ v2 ∧ v2 ≤ 400 := by rw [← e2]; exact (by have q := hI_M 600 x (by decide); rw [xri_row rfl rfl] at q; exact q)
    refine jr_v rfl rfl (Or.inl rfl) rfl rfl (by decide) rfl ⟨rfl, Nat.le_of_ble_eq_true rfl, Nat.le_of_ble_eq_true rfl⟩ rfl (jc.deep (r_look_x hI_M hH_M hS_M  (by omega) (by rw [e2]; omega) (fun M1 hI_M1 hH_M1 hS_M1  w1_0 w1_1 w1_2 w1_3 => ?_)) (by decide))
    refine jr.iload_n rfl rfl ?_
    refine jr.i2l rfl (by omega) ?_
    refine jr.lconst (x := 0) rfl (by decide) ?_
    refine jr.aload_n rfl rfl ?_
    obtain ⟨v3, e3⟩ : ∃ z, M1 598 6 = z := ⟨_, rfl⟩
    have b3 : 0 ≤ v3 ∧ v3 ≤ 12 := by rw [← e3]; exact hI_M1 598 6 (by decide)
    refine jr.getf (i := 6) (x := v3) (v := .int (Int32.ofInt (v3))) rfl rfl (by decide) rfl (by decide) rfl rfl e3 rfl ?_
    refine jr.iconst rfl ?_
    refine jr.isub rfl ?_
    refine jr.i2l rfl (by omega) ?_
    refine jr_s rfl rfl (Or.inl rfl) ⟨Nat.le_of_ble_eq_true rfl, Nat.le_of_ble_eq_true rfl⟩ rfl rfl (jc.deep (c_within (by omega) (by omega) (by omega) (fun l26 u26 => ?_) (fun n26 => ?_)) (by decide))
    · refine jr.if_eq rfl rfl (by omega) (fun h => absurd h (by decide)) (fun _ => ?_)
      refine jr.aload_n rfl rfl ?_
      refine jr.iload_n rfl rfl ?_
      refine jr.iload_n rfl rfl ?_
      refine jr_v rfl rfl (Or.inl rfl) rfl rfl (by decide) rfl ⟨rfl, Nat.le_of_ble_eq_true rfl, Nat.le_of_ble_eq_true rfl⟩ rfl (jc.deep (r_sumOf_x hI_M1 hH_M1 hS_M1  (by omega) (by omega) (HQ6.t w1_1 (by have hq := hI_M 600 x (by decide); rw [xri_row rfl rfl] at hq; omega) (fun i h0 h1 => rf_r hI_M x i)) (by omega) (w1_2 600 x (by decide) (by decide) (by decide) (by decide)) (fun r4 z4 w4_0 => ?_)) (by decide))
      refine jr.goto rfl rfl ?_
      exact jr.ireturn rfl rfl rfl (q _ _ hI_M1 hH_M1 hS_M1  (by omega) (Or.inr ⟨by omega, M1 598 6, HQ6.e w1_1, (by have h9 := w4_0; rw [rf_e (M := M) (fun i => w1_2 601 i (by decide) (by decide) (by decide) (by decide))] at h9; exact h9)⟩) (fun a i f598 f603 f604 f605 => ((w1_2 a i f598 f603 f604 f605).trans rfl)) (fun i g6 g10 g11 g12 => ((w1_3 i g6 g10 g11 g12).trans rfl)))
    · refine jr.if_eq rfl rfl (by omega) (fun _ => ?_) (fun h => absurd (by decide) h)
      refine jr.iconst rfl ?_
      exact jr.ireturn rfl rfl rfl (q _ _ hI_M1 hH_M1 hS_M1  (by omega) (Or.inr ⟨by omega, M1 598 6, HQ6.e w1_1, (by unfold dS kA; rw [if_neg (show ¬ (0 ≤ h ∧ h < M1 598 6) by omega)]; rfl)⟩) (fun a i f598 f603 f604 f605 => ((w1_2 a i f598 f603 f604 f605).trans rfl)) (fun i g6 g10 g11 g12 => ((w1_3 i g6 g10 g11 g12).trans rfl)))
  · refine jr.if_ne rfl rfl (by omega) (fun h => absurd h (by decide)) (fun _ => ?_)
    refine jr.bipush rfl (by decide) ?_
    exact jr.ireturn rfl rfl rfl (q _ _ hI_M hH_M hS_M  (by omega) (Or.inl ⟨by omega, by omega⟩) (fun a i f598 f603 f604 f605 => rfl) (fun i g6 g10 g11 g12 => rfl))
theorem md_n {f f1 : Int → Int} {N C x d : Int} (hd : d = dS f f1 N C x) (h : d = -1) : mdR f N C x f1 = 0 ∧ mdF f N C x f1 = f1 := by
  unfold mdR mdF
  rw [← hd, if_pos h, if_pos h]
  exact ⟨rfl, rfl⟩
theorem md_e {f f1 : Int → Int} {N C x d y : Int} (hd : d = dS f f1 N C x) (h : d ≠ -1) (hy : hY f N x + sof (hX f N x) = y) (ht : tw f1 y = d) (h0 : 0 ≤ f1 y ∧ f1 y ≤ 255) (h1 : 0 ≤ f1 (y + 1) ∧ f1 (y + 1) ≤ 255) : mdR f N C x f1 = 0 ∧ mdF f N C x f1 = f1 := by
  unfold mdR mdF
  rw [← hd, if_neg h, if_neg h, hy, if_pos ht, ptn_id ht h0 h1]
  exact ⟨rfl, rfl⟩
theorem md_c {f f1 : Int → Int} {N C x d y : Int} (hd : d = dS f f1 N C x) (h : d ≠ -1) (hy : hY f N x + sof (hX f N x) = y) (ht : tw f1 y ≠ d) : mdR f N C x f1 = 1 ∧ mdF f N C x f1 = ptn f1 y 2 d := by
  unfold mdR mdF
  rw [← hd, if_neg h, if_neg h, hy, if_neg ht]
  exact ⟨rfl, rfl⟩
theorem r_right_x {A : Nat → Option (Nat × (Nat → Int32))} {Q : Option Value → jm → Prop} {f : Int → Int} {N C : Int} {M : jm} (hI_M : RI M) (hH_M : RH M) (hS_M : RF M) {x : Int} (h_x : 0 ≤ x ∧ x ≤ 23) {h : Int} (h_h : 0 ≤ h ∧ h ≤ 11) (p0 : HT M f N C) (p1 : h < C) (p2 : M 600 x = N) (q : ∀ (r : Int) (M' : jm), RI M' → RH M' → RF M' → 0 ≤ r ∧ r ≤ 1 → (r = mdR f N C h (rf M x) ∧ rf M' x = mdF f N C h (rf M x)) → OX M M' x → (∀ (a : Nat) (i : Int), a ≠ 601 → M' a i = M a i) → Q (some (.int (Int32.ofInt r))) M') : jc A 4 284 [.ref (598), .int (Int32.ofInt (x)), .int (Int32.ofInt (h))] M Q := by
  refine jc_of (m := xm_284) rfl (Nat.le_of_ble_eq_true rfl) rfl ?_
  refine jr.aload_n rfl rfl ?_
  refine jr.iload_n rfl rfl ?_
  refine jr.iload_n rfl rfl ?_
  refine jr_v rfl rfl (Or.inl rfl) rfl rfl (by decide) rfl ⟨rfl, Nat.le_of_ble_eq_true rfl, Nat.le_of_ble_eq_true rfl⟩ rfl (jc.deep (r_sumOf_x hI_M hH_M hS_M  (by omega) (by omega) p0 p1 p2 (fun r1 z1 w1_0 => ?_)) (by decide))
  have hds := dS_in w1_0
  have hh0 := HT.f p0 (x := h) (by omega)
  have hk4 : kA f N C h = hX f N h := kA_i (by omega)
  refine jr.istore_n rfl (by decide) rfl ?_
  refine jr.iload_n rfl rfl ?_
  refine jr.iconst rfl ?_
  refine jr.icmp_eq rfl rfl (by omega) (by omega) (fun h9 => ?_) (fun h9 => ?_)
  · refine jr.iconst rfl ?_
    exact jr.ireturn rfl rfl rfl (q _ _ hI_M hH_M hS_M  (by omega) (by (have h9 := md_n w1_0 (by omega); exact ⟨h9.1.symm, h9.2.symm⟩)) (fun _ _ => rfl) (fun a i f601 => rfl))
  · have sx9 : (0 : Int) ≤ r1 := by omega
    refine jr.aload_n rfl rfl ?_
    refine jr.iload_n rfl rfl ?_
    refine jr.aload_n rfl rfl ?_
    refine jr.iload_n rfl rfl ?_
    refine jr_v rfl rfl (Or.inl rfl) rfl rfl (by decide) rfl ⟨rfl, Nat.le_of_ble_eq_true rfl, Nat.le_of_ble_eq_true rfl⟩ rfl (jc.deep (r_sumAt_x hI_M hH_M hS_M  (by omega)  (fun r2 z2 w2_0 => ?_)) (by decide))
    refine jr_v rfl rfl (Or.inl rfl) rfl rfl (by decide) rfl ⟨rfl, Nat.le_of_ble_eq_true rfl, Nat.le_of_ble_eq_true rfl⟩ rfl (jc.deep (r_two_x hI_M hH_M hS_M  (by omega) (by omega)  (fun r3 z3 w3_0 => ?_)) (by decide))
    refine jr.iload_n rfl rfl ?_
    refine jr.icmp_ne rfl rfl (by omega) (by omega) (fun h23 => ?_) (fun h23 => ?_)
    · refine jr.aload_n rfl rfl ?_
      refine jr.iload_n rfl rfl ?_
      refine jr.aload_n rfl rfl ?_
      refine jr.iload_n rfl rfl ?_
      refine jr_v rfl rfl (Or.inl rfl) rfl rfl (by decide) rfl ⟨rfl, Nat.le_of_ble_eq_true rfl, Nat.le_of_ble_eq_true rfl⟩ rfl (jc.deep (r_sumAt_x hI_M hH_M hS_M  (by omega)  (fun r4 z4 w4_0 => ?_)) (by decide))
      refine jr.iload_n rfl rfl ?_
      refine jr_v rfl rfl (Or.inl rfl) rfl rfl (by decide) rfl ⟨rfl, Nat.le_of_ble_eq_true rfl, Nat.le_of_ble_eq_true rfl⟩ rfl (jc.deep (r_layTwo_x hI_M hH_M hS_M  (by omega) (by omega) (by omega)  (fun M5 hI_M5 hH_M5 hS_M5  w5_0 w5_1 w5_2 => ?_)) (by decide))
      refine jr.iconst rfl ?_
      exact jr.ireturn rfl rfl rfl (q _ _ hI_M5 hH_M5 hS_M5  (by omega) (by have hh := HT.f p0 (x := h) (by omega); have hat : hY f N h + sof (hX f N h) = r4 := (by have h9 := w4_0; rw [← hh.1, ← hh.2.1]; omega); have hsm : r4 = r2 := (by have h9 := w4_0; have h8 := w2_0; omega); have h9 := md_c w1_0 (by omega) hat (by rw [hsm]; omega); rw [h9.1, h9.2]; exact ⟨rfl, w5_0⟩) w5_1 (fun a i f601 => ((w5_2 a i f601).trans rfl)))
    · refine jr.iconst rfl ?_
      exact jr.ireturn rfl rfl rfl (q _ _ hI_M hH_M hS_M  (by omega) (by first | (have h9 := md_n w1_0 (by omega); exact ⟨h9.1.symm, h9.2.symm⟩) | (have hh := HT.f p0 (x := h) (by omega); have hat : hY f N h + sof (hX f N h) = r2 := (by have h9 := w2_0; rw [← hh.1, ← hh.2.1]; omega); have h9 := md_e w1_0 (by omega) hat (by omega) (rf_r hI_M _ _) (rf_r hI_M _ _); exact ⟨h9.1.symm, h9.2.symm⟩)) (fun _ _ => rfl) (fun a i f601 => rfl))
theorem r_repair_L25_x {A : Nat → Option (Nat × (Nat → Int32))} {Q : Option Value → jm → Prop} {M0 : jm} {x0 : Int} (q : ∀ (r : Int) (M' : jm), RI M' → RH M' → RF M' → (-2) ≤ r ∧ r ≤ 20 → (((x0 < 0 ∨ 23 < x0 ∨ M0 600 x0 = -1) ∧ r = -2 ∧ M' = M0) ∨ (((0 ≤ x0 ∧ x0 ≤ 23) ∧ M0 600 x0 ≠ -1) ∧ (∃ C : Int, HE (rf M0 x0) (M0 600 x0) C ∧ r = rpN (rf M0 x0) (M0 600 x0) C C.toNat (rf M0 x0) ∧ rf M' x0 = rpF (rf M0 x0) (M0 600 x0) C C.toNat (rf M0 x0)) ∧ OX M0 M' x0)) → (∀ (a : Nat) (i : Int), a ≠ 598 → a ≠ 601 → a ≠ 603 → a ≠ 604 → a ≠ 605 → M' a i = M0 a i) → (∀ (i : Int), i ≠ 6 → i ≠ 10 → i ≠ 11 → i ≠ 12 → M' 598 i = M0 598 i) → Q (some (.int (Int32.ofInt r))) M') : ∀ (nM : Nat) (M : jm) (h : Int) (c : Int) (x : Int), RI M → RH M → RF M → (∀ (a : Nat) (i : Int), a ≠ 598 → a ≠ 601 → a ≠ 603 → a ≠ 604 → a ≠ 605 → M a i = M0 a i) → (∀ (i : Int), i ≠ 6 → i ≠ 10 → i ≠ 11 → i ≠ 12 → M 598 i = M0 598 i) → (-1) ≤ h ∧ h ≤ 11 → 0 ≤ c ∧ c ≤ 12 → 0 ≤ x ∧ x ≤ 23 → c + h ≤ 11 → HT M (rf M0 x) (M0 600 x) (M 598 6) → HE (rf M0 x) (M0 600 x) (M 598 6) → rpF (rf M0 x) (M0 600 x) (M 598 6) (h + 1).toNat (rf M x) = rpF (rf M0 x) (M0 600 x) (M 598 6) (M 598 6).toNat (rf M0 x) → c + rpN (rf M0 x) (M0 600 x) (M 598 6) (h + 1).toNat (rf M x) = rpN (rf M0 x) (M0 600 x) (M 598 6) (M 598 6).toNat (rf M0 x) → OX M0 M x → M0 600 x ≠ -1 ∧ M 600 x = M0 600 x ∧ h < M 598 6 → x = x0 → h + 1 ≤ nM → jr A 4 xm_285 25 [(3, .int (Int32.ofInt (h))), (2, .int (Int32.ofInt (c))), (1, .int (Int32.ofInt (x))), (0, .ref (598))] [] M Q := by
  intro nM
  induction nM using Nat.strongRecOn with
  | ind nM ih =>
    intro M h c x hI_M hH_M hS_M hF_M hG_M h_h h_c h_x hy0 hy1 hy2 hy3 hy4 hy5 hy6 hy7 hm
    subst hy7
    refine jr.iload_n rfl rfl ?_
    refine jr.if_lt rfl rfl (by omega) (fun h26 => ?_) (fun h26 => ?_)
    · refine jr.iload_n rfl rfl ?_
      exact jr.ireturn rfl rfl rfl (q _ _ hI_M hH_M hS_M  (by omega) (Or.inr ⟨by omega, ⟨M 598 6, hy2, by have h9 := (rp_0 (f := rf M0 x) (N := M0 600 x) (C := M 598 6) (g := rf M x) (show h < 0 by omega)).2; omega, by rw [← hy3, (rp_0 (by omega)).1]⟩, hy5⟩) (fun a i f598 f601 f603 f604 f605 => (hF_M a i f598 f601 f603 f604 f605)) (fun i g6 g10 g11 g12 => (hG_M i g6 g10 g11 g12)))
    · refine jr.iload_n rfl rfl ?_
      refine jr.aload_n rfl rfl ?_
      refine jr.iload_n rfl rfl ?_
      refine jr.iload_n rfl rfl ?_
      refine jr_v rfl rfl (Or.inl rfl) rfl rfl (by decide) rfl ⟨rfl, Nat.le_of_ble_eq_true rfl, Nat.le_of_ble_eq_true rfl⟩ rfl (jc.deep (r_right_x hI_M hH_M hS_M  (by omega) (by omega) hy1 (by omega) hy6.2.1 (fun r1 M1 hI_M1 hH_M1 hS_M1  z1 w1_0 w1_1 w1_2 => ?_)) (by decide))
      refine jr.if_eq rfl rfl (by omega) (fun h36 => ?_) (fun h36 => ?_)
      · refine jr.iconst rfl ?_
        refine jr.iadd rfl ?_
        refine jr.istore_n rfl (by decide) rfl ?_
        refine jr.iinc rfl rfl (by decide) rfl ?_
        refine jr.goto rfl rfl ?_
        refine jr.pick [0, 1, 2, 3] rfl rfl ?_
        exact ih (nM - 1) (by omega) M1 (h + (-1)) (c + 0) x hI_M1 hH_M1 hS_M1  (fun a i f598 f601 f603 f604 f605 => ((w1_2 a i f601).trans (hF_M a i f598 f601 f603 f604 f605))) (fun i g6 g10 g11 g12 => ((w1_2 598 i (by decide)).trans (hG_M i g6 g10 g11 g12))) (by omega) (by omega) (by omega) (by omega) (by rw [w1_2 598 6 (by decide)]; exact hy1.o (fun b i hb => w1_2 b i hb)) (by rw [w1_2 598 6 (by decide)]; exact hy2) (by rw [w1_2 598 6 (by decide), w1_0.2, show h + -1 + 1 = h from by omega, ← (rp_s (by omega)).1]; exact hy3) (by rw [w1_2 598 6 (by decide), w1_0.2, show h + -1 + 1 = h from by omega]; have h9 := hy4; rw [(rp_s (by omega)).2] at h9; have h8 := w1_0.1; omega) (fun j hj => (w1_1 j hj).trans (hy5 j hj)) (by rw [w1_2 600 x (by decide), w1_2 598 6 (by decide)]; omega) (by omega) (by omega)
      · have sx36 : (1 : Int) ≤ r1 := by omega
        refine jr.iconst rfl ?_
        refine jr.goto rfl rfl ?_
        refine jr.iadd rfl ?_
        refine jr.istore_n rfl (by decide) rfl ?_
        refine jr.iinc rfl rfl (by decide) rfl ?_
        refine jr.goto rfl rfl ?_
        refine jr.pick [0, 1, 2, 3] rfl rfl ?_
        exact ih (nM - 1) (by omega) M1 (h + (-1)) (c + 1) x hI_M1 hH_M1 hS_M1  (fun a i f598 f601 f603 f604 f605 => ((w1_2 a i f601).trans (hF_M a i f598 f601 f603 f604 f605))) (fun i g6 g10 g11 g12 => ((w1_2 598 i (by decide)).trans (hG_M i g6 g10 g11 g12))) (by omega) (by omega) (by omega) (by omega) (by rw [w1_2 598 6 (by decide)]; exact hy1.o (fun b i hb => w1_2 b i hb)) (by rw [w1_2 598 6 (by decide)]; exact hy2) (by rw [w1_2 598 6 (by decide), w1_0.2, show h + -1 + 1 = h from by omega, ← (rp_s (by omega)).1]; exact hy3) (by rw [w1_2 598 6 (by decide), w1_0.2, show h + -1 + 1 = h from by omega]; have h9 := hy4; rw [(rp_s (by omega)).2] at h9; have h8 := w1_0.1; omega) (fun j hj => (w1_1 j hj).trans (hy5 j hj)) (by rw [w1_2 600 x (by decide), w1_2 598 6 (by decide)]; omega) (by omega) (by omega)
theorem r_repair_x {A : Nat → Option (Nat × (Nat → Int32))} {Q : Option Value → jm → Prop} {M : jm} (hI_M : RI M) (hH_M : RH M) (hS_M : RF M) {x : Int} (h_x : (-2147483648) ≤ x ∧ x ≤ 2147483647) (q : ∀ (r : Int) (M' : jm), RI M' → RH M' → RF M' → (-2) ≤ r ∧ r ≤ 20 → (((x < 0 ∨ 23 < x ∨ M 600 x = -1) ∧ r = -2 ∧ M' = M) ∨ (((0 ≤ x ∧ x ≤ 23) ∧ M 600 x ≠ -1) ∧ (∃ C : Int, HE (rf M x) (M 600 x) C ∧ r = rpN (rf M x) (M 600 x) C C.toNat (rf M x) ∧ rf M' x = rpF (rf M x) (M 600 x) C C.toNat (rf M x)) ∧ OX M M' x)) → (∀ (a : Nat) (i : Int), a ≠ 598 → a ≠ 601 → a ≠ 603 → a ≠ 604 → a ≠ 605 → M' a i = M a i) → (∀ (i : Int), i ≠ 6 → i ≠ 10 → i ≠ 11 → i ≠ 12 → M' 598 i = M 598 i) → Q (some (.int (Int32.ofInt r))) M') : jc A 5 285 [.ref (598), .int (Int32.ofInt (x))] M Q := by
  refine jc_of (m := xm_285) rfl (Nat.le_of_ble_eq_true rfl) rfl ?_
  refine jr.aload_n rfl rfl ?_
  refine jr.iload_n rfl rfl ?_
  refine jr_v rfl rfl (Or.inl rfl) rfl rfl (by decide) rfl ⟨rfl, Nat.le_of_ble_eq_true rfl, Nat.le_of_ble_eq_true rfl⟩ rfl (jc.deep (c_isThere hI_M (by omega) (fun l2 u2 t2 => ?_) (fun n2 => ?_)) (by decide))
  · refine jr.if_ne rfl rfl (by omega) (fun _ => ?_) (fun h => absurd (by decide) h)
    refine jr.aload_n rfl rfl ?_
    refine jr.iload_n rfl rfl ?_
    obtain ⟨v2, e2⟩ : ∃ z, M 600 x = z := ⟨_, rfl⟩
    have b2 : (-1) ≤ v2 ∧ v2 ≤ 400 := by rw [← e2]; exact (by have q := hI_M 600 x (by decide); rw [xri_row rfl rfl] at q; exact q)
    refine jr_v rfl rfl (Or.inl rfl) rfl rfl (by decide) rfl ⟨rfl, Nat.le_of_ble_eq_true rfl, Nat.le_of_ble_eq_true rfl⟩ rfl (jc.deep (r_look_x hI_M hH_M hS_M  (by omega) (by rw [e2]; omega) (fun M1 hI_M1 hH_M1 hS_M1  w1_0 w1_1 w1_2 w1_3 => ?_)) (by decide))
    refine jr.iconst rfl ?_
    refine jr.istore_n rfl (by decide) rfl ?_
    refine jr.aload_n rfl rfl ?_
    obtain ⟨v3, e3⟩ : ∃ z, M1 598 6 = z := ⟨_, rfl⟩
    have b3 : 0 ≤ v3 ∧ v3 ≤ 12 := by rw [← e3]; exact hI_M1 598 6 (by decide)
    refine jr.getf (i := 6) (x := v3) (v := .int (Int32.ofInt (v3))) rfl rfl (by decide) rfl (by decide) rfl rfl e3 rfl ?_
    refine jr.iconst rfl ?_
    refine jr.isub rfl ?_
    refine jr.istore_n rfl (by decide) rfl ?_
    refine jr.pick [0, 1, 3, 2] rfl rfl ?_
    exact r_repair_L25_x q 13 M1 (v3 - 1) 0 x hI_M1 hH_M1 hS_M1  (fun a i f598 f601 f603 f604 f605 => ((w1_2 a i f598 f603 f604 f605).trans rfl)) (fun i g6 g10 g11 g12 => ((w1_3 i g6 g10 g11 g12).trans rfl)) (by omega) (by omega) (by omega) (by omega) (HQ6.t w1_1 (by have hq := hI_M 600 x (by decide); rw [xri_row rfl rfl] at hq; omega) (fun i h0 h1 => rf_r hI_M x i)) (HQ6.e w1_1) (by rw [e3, show v3 - 1 + 1 = v3 from by omega, rf_e (M := M) (fun i => w1_2 601 i (by decide) (by decide) (by decide) (by decide))]) (by rw [e3, show v3 - 1 + 1 = v3 from by omega, rf_e (M := M) (fun i => w1_2 601 i (by decide) (by decide) (by decide) (by decide))]; omega) (fun j _ => w1_2 601 j (by decide) (by decide) (by decide) (by decide)) ⟨by omega, w1_2 600 x (by decide) (by decide) (by decide) (by decide), by omega⟩ (by omega) (by omega)
  · refine jr.if_ne rfl rfl (by omega) (fun h => absurd h (by decide)) (fun _ => ?_)
    refine jr.bipush rfl (by decide) ?_
    exact jr.ireturn rfl rfl rfl (q _ _ hI_M hH_M hS_M  (by omega) (Or.inl ⟨by omega, by omega, rfl⟩) (fun a i f598 f601 f603 f604 f605 => rfl) (fun i g6 g10 g11 g12 => rfl))
end
section
/-! ===== the class: gatherings ===== -/
theorem HS.fr {W : List (Nat × Nat)} {T M : jm} {t : Nat} {f : Int → Int} {N : Int} (h : HS T t f N) (k : kd t = 18) (hC : CI T) (g : FR W T M) (h1 : ksep W [(18, 3), (18, 4), (18, 5), (18, 6), (18, 7), (19, 1000), (20, 1000), (21, 1000), (33, 1), (34, 1000)] = true) : HS M t f N := by
  have k7 : kd (T t 7).toNat = 33 := CI.x hC k 7 rfl (by decide)
  have e7 : M t 7 = T t 7 := g.s h1 k 7 (by decide) 7 (Or.inr rfl)
  have e3 : M t 3 = T t 3 := g.s h1 k 3 (by decide) 3 (Or.inr rfl)
  have e4 : M t 4 = T t 4 := g.s h1 k 4 (by decide) 4 (Or.inr rfl)
  have e5 : M t 5 = T t 5 := g.s h1 k 5 (by decide) 5 (Or.inr rfl)
  have e6 : M t 6 = T t 6 := g.s h1 k 6 (by decide) 6 (Or.inr rfl)
  obtain ⟨hb, hn, h0, hq⟩ := h
  refine ⟨?_, ?_, h0, ?_⟩
  · rw [e7]
    intro i i0 i1
    rw [g.s h1 (kf_33_0 k7).2 1000 (by decide) i (Or.inl rfl)]
    exact hb i i0 i1
  · rw [e7, g.s h1 k7 1 (by decide) 1 (Or.inr rfl)]
    exact hn
  · unfold HQ at hq ⊢
    rw [e3, e4, e5, e6]
    refine ⟨hq.1, fun i i0 i1 => ?_, hq.2.2⟩
    rw [g.s h1 (kf_18_0 k).2 1000 (by decide) i (Or.inl rfl), g.s h1 (kf_18_1 k).2 1000 (by decide) i (Or.inl rfl), g.s h1 (kf_18_2 k).2 1000 (by decide) i (Or.inl rfl)]
    exact hq.2.1 i i0 i1
/-- a piece's name, in the gathering t -/
noncomputable def NMB (T M : jm) (t : Nat) (f : Int → Int) (N C y : Int) : Prop := (M t 1 = kA f N C y ∧ M t 2 = adf f N C (ntf f N C) 0 ∧ M t 3 = adf f N C (ntf f N C) 1 ∧ M t 4 = vA f N C y 3 ∧ M t 5 = vA f N C y (if kA f N C y = 2 then 7 else 0)) ∧ (∀ (b : Nat) (k : Int), b ≠ t → M b k = T b k) ∧ M t 0 = T t 0
noncomputable def nmq (M : jm) (a b : Nat) : Prop := M a 1 = M b 1 ∧ M a 2 = M b 2 ∧ M a 3 = M b 3 ∧ M a 4 = M b 4 ∧ M a 5 = M b 5
noncomputable def gS (M : jm) : Nat → Int → Int
  | 0, _ => -1
  | n + 1, i => if M (xe 10 i) 0 ≠ 0 ∧ (M (xe 10 i) 1 = M 11 1 ∧ M (xe 10 i) 2 = M 11 2 ∧ M (xe 10 i) 3 = M 11 3 ∧ M (xe 10 i) 4 = M 11 4 ∧ M (xe 10 i) 5 = M 11 5) then i else gS M n (i + 1)
noncomputable def gF (M : jm) : Nat → Int → Int
  | 0, _ => -1
  | n + 1, i => if M (xe 10 i) 0 = 0 then i else gF M n (i + 1)
theorem gS_s {M : jm} {i : Int} (h : i < 8) : gS M (8 - i).toNat i = if M (xe 10 i) 0 ≠ 0 ∧ (M (xe 10 i) 1 = M 11 1 ∧ M (xe 10 i) 2 = M 11 2 ∧ M (xe 10 i) 3 = M 11 3 ∧ M (xe 10 i) 4 = M 11 4 ∧ M (xe 10 i) 5 = M 11 5) then i else gS M (8 - (i + 1)).toNat (i + 1) := by
  obtain ⟨n, hn⟩ : ∃ n : Nat, i = 7 - n := ⟨(7 - i).toNat, by omega⟩
  subst hn
  rw [show (8 - (7 - (n : Int))).toNat = n + 1 by omega, show (8 - (7 - (n : Int) + 1)).toNat = n by omega]
  rfl
theorem gF_s {M : jm} {i : Int} (h : i < 8) : gF M (8 - i).toNat i = if M (xe 10 i) 0 = 0 then i else gF M (8 - (i + 1)).toNat (i + 1) := by
  obtain ⟨n, hn⟩ : ∃ n : Nat, i = 7 - n := ⟨(7 - i).toNat, by omega⟩
  subst hn
  rw [show (8 - (7 - (n : Int))).toNat = n + 1 by omega, show (8 - (7 - (n : Int) + 1)).toNat = n by omega]
  rfl
noncomputable def rfq (f : Int → Int) (N C x y : Int) : Prop := N - enf f N C x ≤ 0 ∨ (mrf f N C x = 1 ∧ (N - enf f N C x) % 8 ≠ 0) ∨ (mrf f N C x ≠ 1 ∧ y = 1 ∧ 360 < ofs f N C x + (N - enf f N C x))
noncomputable def W_c_Gathering_nameBy_x : List (Nat × Nat) := [(15, 1), (15, 2), (15, 3), (15, 4), (15, 5)]
theorem c_Gathering_nameBy_x {A : Nat → Option (Nat × (Nat → Int32))} {Q : Option Value → jm → Prop} {f : Int → Int} {N : Int} {T : jm} {M : jm} (hC_M : CI M) (ht_M : FR W_c_Gathering_nameBy_x T M) {t : Nat} (k_t : kd t = 15) {y : Int} (h_y : 0 ≤ y ∧ y ≤ 11) {C : Int} (g_C : M 3 3 = C) (p0 : T = M) (p1 : HS M 3 f N) (q : ∀ (M' : jm), CI M' → FR W_c_Gathering_nameBy_x T M' → (NMB T M' t f N C y) → Q none M') : jc A 4 93 [.ref (t), .ref (3), .int (Int32.ofInt (y))] M Q := by
  refine jc_of (m := xm_93) rfl (Nat.le_of_ble_eq_true rfl) rfl ?_
  have b_C : 0 ≤ C ∧ C ≤ 12 := by rw [← g_C]; exact (CI.r hC_M (show kd 3 = 18 from rfl) (by decide) 3)
  refine jr.aload_n rfl rfl ?_
  refine jr.bipush rfl (by decide) ?_
  refine jr_v rfl rfl (Or.inl rfl) rfl rfl (by decide) rfl ⟨rfl, Nat.le_of_ble_eq_true rfl, Nat.le_of_ble_eq_true rfl⟩ rfl (jc.deep (c_Headers_firstOf_x hC_M (show kd 3 = 18 from rfl) (by omega) g_C p1 (fun r1 z1 w1_0 => ?_)) (by decide))
  refine jr.istore_n rfl (by decide) rfl ?_
  refine jr.aload_n rfl rfl ?_
  refine jr.aload_n rfl rfl ?_
  refine jr.iload_n rfl rfl ?_
  refine jr_v rfl rfl (Or.inl rfl) rfl rfl (by decide) rfl ⟨rfl, Nat.le_of_ble_eq_true rfl, Nat.le_of_ble_eq_true rfl⟩ rfl (jc.deep (c_Headers_kindAt_x hC_M (show kd 3 = 18 from rfl) (by omega) g_C p1 (fun r2 z2 w2_0 => ?_)) (by decide))
  refine jr.putf (i := 1) (x := r2) rfl rfl (Nat.lt_trans (kx_15 k_t).1 (by decide)) (kx_15 k_t).2 (by decide) rfl rfl rfl rfl rfl ?_
  refine jr.aload_n rfl rfl ?_
  refine jr.aload_n rfl rfl ?_
  refine jr.iload_n rfl rfl ?_
  refine jr.iconst rfl ?_
  refine jr_v rfl rfl (Or.inl rfl) rfl rfl (by decide) rfl ⟨rfl, Nat.le_of_ble_eq_true rfl, Nat.le_of_ble_eq_true rfl⟩ rfl (jc.deep (c_Headers_addressOf_x (CI.u hC_M (i := 1) k_t (show (-2147483648 : Int) ≤ _ ∧ _ ≤ (2147483647 : Int) from by omega) rfl) (show kd 3 = 18 from rfl) (by omega) (by omega) ((ju_i _ _ (by decide)).trans g_C) (HS.fr p1 (show kd 3 = 18 from rfl) hC_M (FR.o (FR.rfl [(15, 1)] M) k_t rfl) rfl) (fun r3 z3 w3_0 => ?_)) (by decide))
  refine jr.putf (i := 2) (x := r3) rfl rfl (Nat.lt_trans (kx_15 k_t).1 (by decide)) (kx_15 k_t).2 (by decide) rfl rfl rfl rfl rfl ?_
  refine jr.aload_n rfl rfl ?_
  refine jr.aload_n rfl rfl ?_
  refine jr.iload_n rfl rfl ?_
  refine jr.iconst rfl ?_
  refine jr_v rfl rfl (Or.inl rfl) rfl rfl (by decide) rfl ⟨rfl, Nat.le_of_ble_eq_true rfl, Nat.le_of_ble_eq_true rfl⟩ rfl (jc.deep (c_Headers_addressOf_x (CI.u (CI.u hC_M (i := 1) k_t (show (-2147483648 : Int) ≤ _ ∧ _ ≤ (2147483647 : Int) from by omega) rfl) (i := 2) k_t (show (-9223372036854775808 : Int) ≤ _ ∧ _ ≤ (9223372036854775807 : Int) from by omega) rfl) (show kd 3 = 18 from rfl) (by omega) (by omega) ((ju_i _ _ (by decide)).trans ((ju_i _ _ (by decide)).trans g_C)) (HS.fr p1 (show kd 3 = 18 from rfl) hC_M (FR.o (FR.o (FR.rfl [(15, 1), (15, 2)] M) k_t rfl) k_t rfl) rfl) (fun r4 z4 w4_0 => ?_)) (by decide))
  refine jr.putf (i := 3) (x := r4) rfl rfl (Nat.lt_trans (kx_15 k_t).1 (by decide)) (kx_15 k_t).2 (by decide) rfl rfl rfl rfl rfl ?_
  refine jr.aload_n rfl rfl ?_
  refine jr.aload_n rfl rfl ?_
  refine jr.iload_n rfl rfl ?_
  refine jr.aload_n rfl rfl ?_
  refine jr.getf (i := 1) (x := r2) (v := .int (Int32.ofInt (r2))) rfl rfl (Nat.lt_trans (kx_15 k_t).1 (by decide)) (kx_15 k_t).2 (by decide) rfl rfl ((ju_i _ _ (by decide)).trans ((ju_i _ _ (by decide)).trans (ju_same _ _ _ _))) rfl ?_
  refine jr.iconst rfl ?_
  refine jr.icmp_ne rfl rfl (by omega) (by omega) (fun h44 => ?_) (fun h44 => ?_)
  · refine jr.iconst rfl ?_
    refine jr_v rfl rfl (Or.inl rfl) rfl rfl (by decide) rfl ⟨rfl, Nat.le_of_ble_eq_true rfl, Nat.le_of_ble_eq_true rfl⟩ rfl (jc.deep (c_Headers_valueOf_x (CI.u (CI.u (CI.u hC_M (i := 1) k_t (show (-2147483648 : Int) ≤ _ ∧ _ ≤ (2147483647 : Int) from by omega) rfl) (i := 2) k_t (show (-9223372036854775808 : Int) ≤ _ ∧ _ ≤ (9223372036854775807 : Int) from by omega) rfl) (i := 3) k_t (show (-9223372036854775808 : Int) ≤ _ ∧ _ ≤ (9223372036854775807 : Int) from by omega) rfl) (show kd 3 = 18 from rfl) (by omega) (by omega) ((ju_c _ _ (kd_ne (by rw [(show kd 3 = 18 from rfl), k_t]; decide))).trans ((ju_i _ _ (by decide)).trans ((ju_i _ _ (by decide)).trans g_C))) (HS.fr p1 (show kd 3 = 18 from rfl) hC_M (FR.o (FR.o (FR.o (FR.rfl [(15, 1), (15, 2), (15, 3)] M) k_t rfl) k_t rfl) k_t rfl) rfl) (fun r5 z5 w5_0 => ?_)) (by decide))
    refine jr.putf (i := 4) (x := r5) rfl rfl (Nat.lt_trans (kx_15 k_t).1 (by decide)) (kx_15 k_t).2 (by decide) rfl rfl rfl rfl rfl ?_
    refine jr.aload_n rfl rfl ?_
    refine jr.aload_n rfl rfl ?_
    refine jr.iload_n rfl rfl ?_
    refine jr.aload_n rfl rfl ?_
    refine jr.getf (i := 1) (x := r2) (v := .int (Int32.ofInt (r2))) rfl rfl (Nat.lt_trans (kx_15 k_t).1 (by decide)) (kx_15 k_t).2 (by decide) rfl rfl ((ju_i _ _ (by decide)).trans ((ju_i _ _ (by decide)).trans ((ju_i _ _ (by decide)).trans (ju_same _ _ _ _)))) rfl ?_
    refine jr.iconst rfl ?_
    refine jr.icmp_ne rfl rfl (by omega) (by omega) (fun h66 => ?_) (fun h66 => ?_)
    · refine jr.iconst rfl ?_
      refine jr_v rfl rfl (Or.inl rfl) rfl rfl (by decide) rfl ⟨rfl, Nat.le_of_ble_eq_true rfl, Nat.le_of_ble_eq_true rfl⟩ rfl (jc.deep (c_Headers_valueOf_x (CI.u (CI.u (CI.u (CI.u hC_M (i := 1) k_t (show (-2147483648 : Int) ≤ _ ∧ _ ≤ (2147483647 : Int) from by omega) rfl) (i := 2) k_t (show (-9223372036854775808 : Int) ≤ _ ∧ _ ≤ (9223372036854775807 : Int) from by omega) rfl) (i := 3) k_t (show (-9223372036854775808 : Int) ≤ _ ∧ _ ≤ (9223372036854775807 : Int) from by omega) rfl) (i := 4) k_t (show (-9223372036854775808 : Int) ≤ _ ∧ _ ≤ (9223372036854775807 : Int) from by omega) rfl) (show kd 3 = 18 from rfl) (by omega) (by omega) ((ju_i _ _ (by decide)).trans ((ju_c _ _ (kd_ne (by rw [(show kd 3 = 18 from rfl), k_t]; decide))).trans ((ju_i _ _ (by decide)).trans ((ju_i _ _ (by decide)).trans g_C)))) (HS.fr p1 (show kd 3 = 18 from rfl) hC_M (FR.o (FR.o (FR.o (FR.o (FR.rfl [(15, 1), (15, 2), (15, 3), (15, 4)] M) k_t rfl) k_t rfl) k_t rfl) k_t rfl) rfl) (fun r6 z6 w6_0 => ?_)) (by decide))
      refine jr.putf (i := 5) (x := r6) rfl rfl (Nat.lt_trans (kx_15 k_t).1 (by decide)) (kx_15 k_t).2 (by decide) rfl rfl rfl rfl rfl ?_
      exact jr.vreturn rfl rfl (q _ (CI.u (CI.u (CI.u (CI.u (CI.u hC_M (i := 1) k_t (show (-2147483648 : Int) ≤ _ ∧ _ ≤ (2147483647 : Int) from by omega) rfl) (i := 2) k_t (show (-9223372036854775808 : Int) ≤ _ ∧ _ ≤ (9223372036854775807 : Int) from by omega) rfl) (i := 3) k_t (show (-9223372036854775808 : Int) ≤ _ ∧ _ ≤ (9223372036854775807 : Int) from by omega) rfl) (i := 4) k_t (show (-9223372036854775808 : Int) ≤ _ ∧ _ ≤ (9223372036854775807 : Int) from by omega) rfl) (i := 5) k_t (show (-9223372036854775808 : Int) ≤ _ ∧ _ ≤ (9223372036854775807 : Int) from by omega) rfl) (FR.o (FR.o (FR.o (FR.o (FR.o ht_M k_t rfl) k_t rfl) k_t rfl) k_t rfl) k_t rfl)  ⟨⟨(by rw [show (ju (ju (ju (ju (ju M t 1 r2) t 2 r3) t 3 r4) t 4 r5) t 5 r6) t 1 = r2 from ((ju_i _ _ (by decide)).trans ((ju_i _ _ (by decide)).trans ((ju_i _ _ (by decide)).trans ((ju_i _ _ (by decide)).trans (ju_same _ _ _ _)))))]; exact w2_0), (by rw [show (ju (ju (ju (ju (ju M t 1 r2) t 2 r3) t 3 r4) t 4 r5) t 5 r6) t 2 = r3 from ((ju_i _ _ (by decide)).trans ((ju_i _ _ (by decide)).trans ((ju_i _ _ (by decide)).trans (ju_same _ _ _ _))))]; rw [← w1_0]; exact w3_0), (by rw [show (ju (ju (ju (ju (ju M t 1 r2) t 2 r3) t 3 r4) t 4 r5) t 5 r6) t 3 = r4 from ((ju_i _ _ (by decide)).trans ((ju_i _ _ (by decide)).trans (ju_same _ _ _ _)))]; rw [← w1_0]; exact w4_0), (by rw [show (ju (ju (ju (ju (ju M t 1 r2) t 2 r3) t 3 r4) t 4 r5) t 5 r6) t 4 = r5 from ((ju_i _ _ (by decide)).trans (ju_same _ _ _ _))]; exact w5_0), (by rw [show (ju (ju (ju (ju (ju M t 1 r2) t 2 r3) t 3 r4) t 4 r5) t 5 r6) t 5 = r6 from (ju_same _ _ _ _)]; rw [← w2_0]; first | (rw [if_pos (by omega)]; exact w6_0) | (rw [if_neg (by omega)]; exact w6_0))⟩, fun b k hb => by rw [ju_c _ _ hb, ju_c _ _ hb, ju_c _ _ hb, ju_c _ _ hb, ju_c _ _ hb, p0], by rw [ju_i _ _ (by decide), ju_i _ _ (by decide), ju_i _ _ (by decide), ju_i _ _ (by decide), ju_i _ _ (by decide), p0]⟩)
    · exact absurd h44 h66
  · refine jr.iconst rfl ?_
    refine jr.goto rfl rfl ?_
    refine jr_v rfl rfl (Or.inl rfl) rfl rfl (by decide) rfl ⟨rfl, Nat.le_of_ble_eq_true rfl, Nat.le_of_ble_eq_true rfl⟩ rfl (jc.deep (c_Headers_valueOf_x (CI.u (CI.u (CI.u hC_M (i := 1) k_t (show (-2147483648 : Int) ≤ _ ∧ _ ≤ (2147483647 : Int) from by omega) rfl) (i := 2) k_t (show (-9223372036854775808 : Int) ≤ _ ∧ _ ≤ (9223372036854775807 : Int) from by omega) rfl) (i := 3) k_t (show (-9223372036854775808 : Int) ≤ _ ∧ _ ≤ (9223372036854775807 : Int) from by omega) rfl) (show kd 3 = 18 from rfl) (by omega) (by omega) ((ju_c _ _ (kd_ne (by rw [(show kd 3 = 18 from rfl), k_t]; decide))).trans ((ju_i _ _ (by decide)).trans ((ju_i _ _ (by decide)).trans g_C))) (HS.fr p1 (show kd 3 = 18 from rfl) hC_M (FR.o (FR.o (FR.o (FR.rfl [(15, 1), (15, 2), (15, 3)] M) k_t rfl) k_t rfl) k_t rfl) rfl) (fun r8 z8 w8_0 => ?_)) (by decide))
    refine jr.putf (i := 4) (x := r8) rfl rfl (Nat.lt_trans (kx_15 k_t).1 (by decide)) (kx_15 k_t).2 (by decide) rfl rfl rfl rfl rfl ?_
    refine jr.aload_n rfl rfl ?_
    refine jr.aload_n rfl rfl ?_
    refine jr.iload_n rfl rfl ?_
    refine jr.aload_n rfl rfl ?_
    refine jr.getf (i := 1) (x := r2) (v := .int (Int32.ofInt (r2))) rfl rfl (Nat.lt_trans (kx_15 k_t).1 (by decide)) (kx_15 k_t).2 (by decide) rfl rfl ((ju_i _ _ (by decide)).trans ((ju_i _ _ (by decide)).trans ((ju_i _ _ (by decide)).trans (ju_same _ _ _ _)))) rfl ?_
    refine jr.iconst rfl ?_
    refine jr.icmp_ne rfl rfl (by omega) (by omega) (fun h66 => ?_) (fun h66 => ?_)
    · exact absurd h66 (by omega)
    · refine jr.bipush rfl (by decide) ?_
      refine jr.goto rfl rfl ?_
      refine jr_v rfl rfl (Or.inl rfl) rfl rfl (by decide) rfl ⟨rfl, Nat.le_of_ble_eq_true rfl, Nat.le_of_ble_eq_true rfl⟩ rfl (jc.deep (c_Headers_valueOf_x (CI.u (CI.u (CI.u (CI.u hC_M (i := 1) k_t (show (-2147483648 : Int) ≤ _ ∧ _ ≤ (2147483647 : Int) from by omega) rfl) (i := 2) k_t (show (-9223372036854775808 : Int) ≤ _ ∧ _ ≤ (9223372036854775807 : Int) from by omega) rfl) (i := 3) k_t (show (-9223372036854775808 : Int) ≤ _ ∧ _ ≤ (9223372036854775807 : Int) from by omega) rfl) (i := 4) k_t (show (-9223372036854775808 : Int) ≤ _ ∧ _ ≤ (9223372036854775807 : Int) from by omega) rfl) (show kd 3 = 18 from rfl) (by omega) (by omega) ((ju_i _ _ (by decide)).trans ((ju_c _ _ (kd_ne (by rw [(show kd 3 = 18 from rfl), k_t]; decide))).trans ((ju_i _ _ (by decide)).trans ((ju_i _ _ (by decide)).trans g_C)))) (HS.fr p1 (show kd 3 = 18 from rfl) hC_M (FR.o (FR.o (FR.o (FR.o (FR.rfl [(15, 1), (15, 2), (15, 3), (15, 4)] M) k_t rfl) k_t rfl) k_t rfl) k_t rfl) rfl) (fun r9 z9 w9_0 => ?_)) (by decide))
      refine jr.putf (i := 5) (x := r9) rfl rfl (Nat.lt_trans (kx_15 k_t).1 (by decide)) (kx_15 k_t).2 (by decide) rfl rfl rfl rfl rfl ?_
      exact jr.vreturn rfl rfl (q _ (CI.u (CI.u (CI.u (CI.u (CI.u hC_M (i := 1) k_t (show (-2147483648 : Int) ≤ _ ∧ _ ≤ (2147483647 : Int) from by omega) rfl) (i := 2) k_t (show (-9223372036854775808 : Int) ≤ _ ∧ _ ≤ (9223372036854775807 : Int) from by omega) rfl) (i := 3) k_t (show (-9223372036854775808 : Int) ≤ _ ∧ _ ≤ (9223372036854775807 : Int) from by omega) rfl) (i := 4) k_t (show (-9223372036854775808 : Int) ≤ _ ∧ _ ≤ (9223372036854775807 : Int) from by omega) rfl) (i := 5) k_t (show (-9223372036854775808 : Int) ≤ _ ∧ _ ≤ (9223372036854775807 : Int) from by omega) rfl) (FR.o (FR.o (FR.o (FR.o (FR.o ht_M k_t rfl) k_t rfl) k_t rfl) k_t rfl) k_t rfl)  ⟨⟨(by rw [show (ju (ju (ju (ju (ju M t 1 r2) t 2 r3) t 3 r4) t 4 r8) t 5 r9) t 1 = r2 from ((ju_i _ _ (by decide)).trans ((ju_i _ _ (by decide)).trans ((ju_i _ _ (by decide)).trans ((ju_i _ _ (by decide)).trans (ju_same _ _ _ _)))))]; exact w2_0), (by rw [show (ju (ju (ju (ju (ju M t 1 r2) t 2 r3) t 3 r4) t 4 r8) t 5 r9) t 2 = r3 from ((ju_i _ _ (by decide)).trans ((ju_i _ _ (by decide)).trans ((ju_i _ _ (by decide)).trans (ju_same _ _ _ _))))]; rw [← w1_0]; exact w3_0), (by rw [show (ju (ju (ju (ju (ju M t 1 r2) t 2 r3) t 3 r4) t 4 r8) t 5 r9) t 3 = r4 from ((ju_i _ _ (by decide)).trans ((ju_i _ _ (by decide)).trans (ju_same _ _ _ _)))]; rw [← w1_0]; exact w4_0), (by rw [show (ju (ju (ju (ju (ju M t 1 r2) t 2 r3) t 3 r4) t 4 r8) t 5 r9) t 4 = r8 from ((ju_i _ _ (by decide)).trans (ju_same _ _ _ _))]; exact w8_0), (by rw [show (ju (ju (ju (ju (ju M t 1 r2) t 2 r3) t 3 r4) t 4 r8) t 5 r9) t 5 = r9 from (ju_same _ _ _ _)]; rw [← w2_0]; first | (rw [if_pos (by omega)]; exact w9_0) | (rw [if_neg (by omega)]; exact w9_0))⟩, fun b k hb => by rw [ju_c _ _ hb, ju_c _ _ hb, ju_c _ _ hb, ju_c _ _ hb, ju_c _ _ hb, p0], by rw [ju_i _ _ (by decide), ju_i _ _ (by decide), ju_i _ _ (by decide), ju_i _ _ (by decide), ju_i _ _ (by decide), p0]⟩)
theorem c_Gathering_isNamedLike_x {A : Nat → Option (Nat × (Nat → Int32))} {Q : Option Value → jm → Prop} {M : jm} (hC_M : CI M) {t : Nat} (k_t : kd t = 15) {x : Nat} (k_x : kd x = 15) (q : ∀ (r : Int), 0 ≤ r ∧ r ≤ 1 → ((r = 1 ∧ (M t 1 = M x 1 ∧ M t 2 = M x 2 ∧ M t 3 = M x 3 ∧ M t 4 = M x 4 ∧ M t 5 = M x 5)) ∨ (r = 0 ∧ ¬ (M t 1 = M x 1 ∧ M t 2 = M x 2 ∧ M t 3 = M x 3 ∧ M t 4 = M x 4 ∧ M t 5 = M x 5))) → Q (some (.int (Int32.ofInt r))) M) : jc A 1 94 [.ref (t), .ref (x)] M Q := by
  refine jc_of (m := xm_94) rfl (Nat.le_of_ble_eq_true rfl) rfl ?_
  refine jr.aload_n rfl rfl ?_
  obtain ⟨v1, e1⟩ : ∃ z_, M t 1 = z_ := ⟨_, rfl⟩
  have b1 : (-2147483648) ≤ v1 ∧ v1 ≤ 2147483647 := by rw [← e1]; exact (CI.r hC_M k_t (by decide) 1)
  refine jr.getf (i := 1) (x := v1) (v := .int (Int32.ofInt (v1))) rfl rfl (Nat.lt_trans (kx_15 k_t).1 (by decide)) (kx_15 k_t).2 (by decide) rfl rfl e1 rfl ?_
  refine jr.aload_n rfl rfl ?_
  obtain ⟨v2, e2⟩ : ∃ z_, M x 1 = z_ := ⟨_, rfl⟩
  have b2 : (-2147483648) ≤ v2 ∧ v2 ≤ 2147483647 := by rw [← e2]; exact (CI.r hC_M k_x (by decide) 1)
  refine jr.getf (i := 1) (x := v2) (v := .int (Int32.ofInt (v2))) rfl rfl (Nat.lt_trans (kx_15 k_x).1 (by decide)) (kx_15 k_x).2 (by decide) rfl rfl e2 rfl ?_
  refine jr.icmp_ne rfl rfl (by omega) (by omega) (fun h8 => ?_) (fun h8 => ?_)
  · refine jr.iconst rfl ?_
    exact jr.ireturn rfl rfl rfl (q _ (by omega) (by omega))
  · refine jr.aload_n rfl rfl ?_
    obtain ⟨v3, e3⟩ : ∃ z_, M t 2 = z_ := ⟨_, rfl⟩
    have b3 : (-9223372036854775808) ≤ v3 ∧ v3 ≤ 9223372036854775807 := by rw [← e3]; exact (CI.r hC_M k_t (by decide) 2)
    refine jr.getf (i := 2) (x := v3) (v := .long (Int64.ofInt (v3))) rfl rfl (Nat.lt_trans (kx_15 k_t).1 (by decide)) (kx_15 k_t).2 (by decide) rfl rfl e3 rfl ?_
    refine jr.aload_n rfl rfl ?_
    obtain ⟨v4, e4⟩ : ∃ z_, M x 2 = z_ := ⟨_, rfl⟩
    have b4 : (-9223372036854775808) ≤ v4 ∧ v4 ≤ 9223372036854775807 := by rw [← e4]; exact (CI.r hC_M k_x (by decide) 2)
    refine jr.getf (i := 2) (x := v4) (v := .long (Int64.ofInt (v4))) rfl rfl (Nat.lt_trans (kx_15 k_x).1 (by decide)) (kx_15 k_x).2 (by decide) rfl rfl e4 rfl ?_
    refine jr.lcmp_ne rfl rfl rfl (by omega) (by omega) (fun h19 => ?_) (fun h19 => ?_)
    · refine jr.iconst rfl ?_
      exact jr.ireturn rfl rfl rfl (q _ (by omega) (by omega))
    · refine jr.aload_n rfl rfl ?_
      obtain ⟨v5, e5⟩ : ∃ z_, M t 3 = z_ := ⟨_, rfl⟩
      have b5 : (-9223372036854775808) ≤ v5 ∧ v5 ≤ 9223372036854775807 := by rw [← e5]; exact (CI.r hC_M k_t (by decide) 3)
      refine jr.getf (i := 3) (x := v5) (v := .long (Int64.ofInt (v5))) rfl rfl (Nat.lt_trans (kx_15 k_t).1 (by decide)) (kx_15 k_t).2 (by decide) rfl rfl e5 rfl ?_
      refine jr.aload_n rfl rfl ?_
      obtain ⟨v6, e6⟩ : ∃ z_, M x 3 = z_ := ⟨_, rfl⟩
      have b6 : (-9223372036854775808) ≤ v6 ∧ v6 ≤ 9223372036854775807 := by rw [← e6]; exact (CI.r hC_M k_x (by decide) 3)
      refine jr.getf (i := 3) (x := v6) (v := .long (Int64.ofInt (v6))) rfl rfl (Nat.lt_trans (kx_15 k_x).1 (by decide)) (kx_15 k_x).2 (by decide) rfl rfl e6 rfl ?_
      refine jr.lcmp_ne rfl rfl rfl (by omega) (by omega) (fun h31 => ?_) (fun h31 => ?_)
      · refine jr.iconst rfl ?_
        exact jr.ireturn rfl rfl rfl (q _ (by omega) (by omega))
      · refine jr.aload_n rfl rfl ?_
        obtain ⟨v7, e7⟩ : ∃ z_, M t 4 = z_ := ⟨_, rfl⟩
        have b7 : (-9223372036854775808) ≤ v7 ∧ v7 ≤ 9223372036854775807 := by rw [← e7]; exact (CI.r hC_M k_t (by decide) 4)
        refine jr.getf (i := 4) (x := v7) (v := .long (Int64.ofInt (v7))) rfl rfl (Nat.lt_trans (kx_15 k_t).1 (by decide)) (kx_15 k_t).2 (by decide) rfl rfl e7 rfl ?_
        refine jr.aload_n rfl rfl ?_
        obtain ⟨v8, e8⟩ : ∃ z_, M x 4 = z_ := ⟨_, rfl⟩
        have b8 : (-9223372036854775808) ≤ v8 ∧ v8 ≤ 9223372036854775807 := by rw [← e8]; exact (CI.r hC_M k_x (by decide) 4)
        refine jr.getf (i := 4) (x := v8) (v := .long (Int64.ofInt (v8))) rfl rfl (Nat.lt_trans (kx_15 k_x).1 (by decide)) (kx_15 k_x).2 (by decide) rfl rfl e8 rfl ?_
        refine jr.lcmp_ne rfl rfl rfl (by omega) (by omega) (fun h43 => ?_) (fun h43 => ?_)
        · refine jr.iconst rfl ?_
          exact jr.ireturn rfl rfl rfl (q _ (by omega) (by omega))
        · refine jr.aload_n rfl rfl ?_
          obtain ⟨v9, e9⟩ : ∃ z_, M t 5 = z_ := ⟨_, rfl⟩
          have b9 : (-9223372036854775808) ≤ v9 ∧ v9 ≤ 9223372036854775807 := by rw [← e9]; exact (CI.r hC_M k_t (by decide) 5)
          refine jr.getf (i := 5) (x := v9) (v := .long (Int64.ofInt (v9))) rfl rfl (Nat.lt_trans (kx_15 k_t).1 (by decide)) (kx_15 k_t).2 (by decide) rfl rfl e9 rfl ?_
          refine jr.aload_n rfl rfl ?_
          obtain ⟨v10, e10⟩ : ∃ z_, M x 5 = z_ := ⟨_, rfl⟩
          have b10 : (-9223372036854775808) ≤ v10 ∧ v10 ≤ 9223372036854775807 := by rw [← e10]; exact (CI.r hC_M k_x (by decide) 5)
          refine jr.getf (i := 5) (x := v10) (v := .long (Int64.ofInt (v10))) rfl rfl (Nat.lt_trans (kx_15 k_x).1 (by decide)) (kx_15 k_x).2 (by decide) rfl rfl e10 rfl ?_
          refine jr.lcmp_ne rfl rfl rfl (by omega) (by omega) (fun h55 => ?_) (fun h55 => ?_)
          · refine jr.iconst rfl ?_
            exact jr.ireturn rfl rfl rfl (q _ (by omega) (by omega))
          · refine jr.iconst rfl ?_
            refine jr.goto rfl rfl ?_
            exact jr.ireturn rfl rfl rfl (q _ (by omega) (by omega))
theorem c_PacketWall_soughtGathering_x_L2 {A : Nat → Option (Nat × (Nat → Int32))} {Q : Option Value → jm → Prop} {M : jm} (hC_M : CI M) (q : ∀ (r : Int), (-1) ≤ r ∧ r ≤ 7 → (r = gS M 8 0) → Q (some (.int (Int32.ofInt r))) M) : ∀ (nM : Nat) (i : Int), 0 ≤ i ∧ i ≤ 8 → (gS M 8 0 = gS M (8 - i).toNat i) → 8 - i ≤ nM → jr A 1 xm_45 2 [(1, .int (Int32.ofInt (i))), (0, .ref (0))] [] M Q := by
  intro nM
  induction nM using Nat.strongRecOn with
  | ind nM ih =>
    intro i h_i hy0 hm
    refine jr.iload_n rfl rfl ?_
    refine jr.bipush rfl (by decide) ?_
    refine jr.icmp_ge rfl rfl (by omega) (by omega) (fun h5 => ?_) (fun h5 => ?_)
    · refine jr.iconst rfl ?_
      exact jr.ireturn rfl rfl rfl (q _ (by omega) (by rw [hy0, show (8 - i).toNat = 0 from by omega]; rfl))
    · refine jr.aload_n rfl rfl ?_
      refine jr.getf (i := 5) (v := .ref 10) rfl rfl (by decide) rfl (by decide) rfl rfl rfl rfl ?_
      refine jr.iload_n rfl rfl ?_
      have k1 := kxe_40 (a := 10) rfl (i := i) (by omega) (by omega)
      refine jr.aald (c := (xe 10 i)) rfl (by decide) rfl (by decide) (by decide) rfl (by decide) (by omega) (by omega) k1.1 ?_
      obtain ⟨v2, e2⟩ : ∃ z_, M ((xe 10 i)) 0 = z_ := ⟨_, rfl⟩
      have b2 : 0 ≤ v2 ∧ v2 ≤ 1 := by rw [← e2]; exact (CI.r hC_M k1.2 (by decide) 0)
      refine jr.getf (i := 0) (x := v2) (v := .int (Int32.ofInt (v2))) rfl rfl (Nat.lt_trans (kx_15 k1.2).1 (by decide)) (kx_15 k1.2).2 (by decide) rfl rfl e2 rfl ?_
      refine jr.if_eq rfl rfl (by omega) (fun h17 => ?_) (fun h17 => ?_)
      · refine jr.iinc rfl rfl (by decide) rfl ?_
        refine jr.goto rfl rfl ?_
        refine jr.pick [0, 1] rfl rfl ?_
        exact ih (nM - 1) (by omega) (i + 1) (by omega) (by rw [hy0, gS_s (by omega), if_neg (by omega)]) (by omega)
      · have sx17 : (1 : Int) ≤ v2 := by omega
        refine jr.aload_n rfl rfl ?_
        refine jr.getf (i := 5) (v := .ref 10) rfl rfl (by decide) rfl (by decide) rfl rfl rfl rfl ?_
        refine jr.iload_n rfl rfl ?_
        have k3 := kxe_40 (a := 10) rfl (i := i) (by omega) (by omega)
        refine jr.aald (c := (xe 10 i)) rfl (by decide) rfl (by decide) (by decide) rfl (by decide) (by omega) (by omega) k3.1 ?_
        refine jr.aload_n rfl rfl ?_
        refine jr.getf (i := 6) (v := .ref 11) rfl rfl (by decide) rfl (by decide) rfl rfl rfl rfl ?_
        refine jr_v rfl rfl (Or.inl rfl) rfl rfl (Nat.lt_trans (kx_15 k3.2).1 (by decide)) (kx_15 k3.2).2 ⟨rfl, Nat.le_of_ble_eq_true rfl, Nat.le_of_ble_eq_true rfl⟩ rfl (jc.deep (c_Gathering_isNamedLike_x hC_M k3.2 (show kd 11 = 15 from rfl) (fun r4 z4 w4_0 => ?_)) (by decide))
        refine jr.if_eq rfl rfl (by omega) (fun h33 => ?_) (fun h33 => ?_)
        · refine jr.iinc rfl rfl (by decide) rfl ?_
          refine jr.goto rfl rfl ?_
          refine jr.pick [0, 1] rfl rfl ?_
          exact ih (nM - 1) (by omega) (i + 1) (by omega) (by rw [hy0, gS_s (by omega), if_neg (by omega)]) (by omega)
        · have sx33 : (1 : Int) ≤ r4 := by omega
          refine jr.iload_n rfl rfl ?_
          exact jr.ireturn rfl rfl rfl (q _ (by omega) (by rw [hy0, gS_s (by omega), if_pos (by omega)]))
theorem c_PacketWall_soughtGathering_x {A : Nat → Option (Nat × (Nat → Int32))} {Q : Option Value → jm → Prop} {M : jm} (hC_M : CI M) (q : ∀ (r : Int), (-1) ≤ r ∧ r ≤ 7 → (r = gS M 8 0) → Q (some (.int (Int32.ofInt r))) M) : jc A 2 45 [.ref (0)] M Q := by
  refine jc_of (m := xm_45) rfl (Nat.le_of_ble_eq_true rfl) rfl ?_
  refine jr.iconst rfl ?_
  refine jr.istore_n rfl (by decide) rfl ?_
  refine jr.pick [0, 1] rfl rfl ?_
  exact c_PacketWall_soughtGathering_x_L2 hC_M  q 8 0 (by omega) rfl (by omega)
theorem c_PacketWall_freeGathering_x_L2 {A : Nat → Option (Nat × (Nat → Int32))} {Q : Option Value → jm → Prop} {M : jm} (hC_M : CI M) (q : ∀ (r : Int), (-1) ≤ r ∧ r ≤ 7 → (r = gF M 8 0) → Q (some (.int (Int32.ofInt r))) M) : ∀ (nM : Nat) (i : Int), 0 ≤ i ∧ i ≤ 8 → (gF M 8 0 = gF M (8 - i).toNat i) → 8 - i ≤ nM → jr A 0 xm_46 2 [(1, .int (Int32.ofInt (i))), (0, .ref (0))] [] M Q := by
  intro nM
  induction nM using Nat.strongRecOn with
  | ind nM ih =>
    intro i h_i hy0 hm
    refine jr.iload_n rfl rfl ?_
    refine jr.bipush rfl (by decide) ?_
    refine jr.icmp_ge rfl rfl (by omega) (by omega) (fun h5 => ?_) (fun h5 => ?_)
    · refine jr.iconst rfl ?_
      exact jr.ireturn rfl rfl rfl (q _ (by omega) (by rw [hy0, show (8 - i).toNat = 0 from by omega]; rfl))
    · refine jr.aload_n rfl rfl ?_
      refine jr.getf (i := 5) (v := .ref 10) rfl rfl (by decide) rfl (by decide) rfl rfl rfl rfl ?_
      refine jr.iload_n rfl rfl ?_
      have k1 := kxe_40 (a := 10) rfl (i := i) (by omega) (by omega)
      refine jr.aald (c := (xe 10 i)) rfl (by decide) rfl (by decide) (by decide) rfl (by decide) (by omega) (by omega) k1.1 ?_
      obtain ⟨v2, e2⟩ : ∃ z_, M ((xe 10 i)) 0 = z_ := ⟨_, rfl⟩
      have b2 : 0 ≤ v2 ∧ v2 ≤ 1 := by rw [← e2]; exact (CI.r hC_M k1.2 (by decide) 0)
      refine jr.getf (i := 0) (x := v2) (v := .int (Int32.ofInt (v2))) rfl rfl (Nat.lt_trans (kx_15 k1.2).1 (by decide)) (kx_15 k1.2).2 (by decide) rfl rfl e2 rfl ?_
      refine jr.if_ne rfl rfl (by omega) (fun h17 => ?_) (fun h17 => ?_)
      · have sx17 : (1 : Int) ≤ v2 := by omega
        refine jr.iinc rfl rfl (by decide) rfl ?_
        refine jr.goto rfl rfl ?_
        refine jr.pick [0, 1] rfl rfl ?_
        exact ih (nM - 1) (by omega) (i + 1) (by omega) (by rw [hy0, gF_s (by omega), if_neg (by omega)]) (by omega)
      · refine jr.iload_n rfl rfl ?_
        exact jr.ireturn rfl rfl rfl (q _ (by omega) (by rw [hy0, gF_s (by omega), if_pos (by omega)]))
theorem c_PacketWall_freeGathering_x {A : Nat → Option (Nat × (Nat → Int32))} {Q : Option Value → jm → Prop} {M : jm} (hC_M : CI M) (q : ∀ (r : Int), (-1) ≤ r ∧ r ≤ 7 → (r = gF M 8 0) → Q (some (.int (Int32.ofInt r))) M) : jc A 1 46 [.ref (0)] M Q := by
  refine jc_of (m := xm_46) rfl (Nat.le_of_ble_eq_true rfl) rfl ?_
  refine jr.iconst rfl ?_
  refine jr.istore_n rfl (by decide) rfl ?_
  refine jr.pick [0, 1] rfl rfl ?_
  exact c_PacketWall_freeGathering_x_L2 hC_M  q 8 0 (by omega) rfl (by omega)
theorem c_PacketWall_isRefusedPiece_x {A : Nat → Option (Nat × (Nat → Int32))} {Q : Option Value → jm → Prop} {f : Int → Int} {N : Int} {M : jm} (hC_M : CI M) {x : Int} (h_x : 0 ≤ x ∧ x ≤ 11) {y : Int} (h_y : 0 ≤ y ∧ y ≤ 1) {C : Int} (g_C : M 3 3 = C) (p0 : HS M 3 f N) (p1 : x < C) (p2 : hX f N x = 2 ∨ hX f N x = 6) (q : ∀ (r : Int), 0 ≤ r ∧ r ≤ 1 → ((r = 1 ∧ rfq f N C x y) ∨ (r = 0 ∧ ¬ rfq f N C x y)) → Q (some (.int (Int32.ofInt r))) M) : jc A 4 47 [.ref (0), .int (Int32.ofInt (x)), .int (Int32.ofInt (y))] M Q := by
  refine jc_of (m := xm_47) rfl (Nat.le_of_ble_eq_true rfl) rfl ?_
  have b_C : 0 ≤ C ∧ C ≤ 12 := by rw [← g_C]; exact (CI.r hC_M (show kd 3 = 18 from rfl) (by decide) 3)
  refine jr.aload_n rfl rfl ?_
  refine jr.getf (i := 3) (v := .ref 3) rfl rfl (by decide) rfl (by decide) rfl rfl rfl rfl ?_
  refine jr.iload_n rfl rfl ?_
  obtain ⟨v2, e2⟩ : ∃ z_, M 3 7 = z_ := ⟨_, rfl⟩
  have b2 : 0 ≤ v2 ∧ v2 ≤ 597 := by rw [← e2]; exact (CI.r hC_M (show kd 3 = 18 from rfl) (by decide) 7)
  have k1_S : kd (v2).toNat = 33 := (congrArg (fun z : Int => kd z.toNat) e2).symm.trans (CI.x hC_M (show kd 3 = 18 from rfl) 7 rfl (by decide))
  refine jr_v rfl rfl (Or.inl rfl) rfl rfl (by decide) rfl ⟨rfl, Nat.le_of_ble_eq_true rfl, Nat.le_of_ble_eq_true rfl⟩ rfl (jc.deep (c_Headers_dataBehind_x hC_M (show kd 3 = 18 from rfl) (by omega) g_C e2 p0 (fun r1 z1 w1_0 => ?_)) (by decide))
  refine jr.istore_n rfl (by decide) rfl ?_
  refine jr.iload_n rfl rfl ?_
  refine jr.if_gt rfl rfl (by omega) (fun h10 => ?_) (fun h10 => ?_)
  · refine jr.aload_n rfl rfl ?_
    refine jr.getf (i := 3) (v := .ref 3) rfl rfl (by decide) rfl (by decide) rfl rfl rfl rfl ?_
    refine jr.iload_n rfl rfl ?_
    refine jr_v rfl rfl (Or.inl rfl) rfl rfl (by decide) rfl ⟨rfl, Nat.le_of_ble_eq_true rfl, Nat.le_of_ble_eq_true rfl⟩ rfl (jc.deep (c_Headers_isMoreToCome_x hC_M (show kd 3 = 18 from rfl) (by omega) g_C p0 (fun r3 z3 w3_0 => ?_)) (by decide))
    refine jr.if_eq rfl rfl (by omega) (fun h23 => ?_) (fun h23 => ?_)
    · refine jr.iload_n rfl rfl ?_
      refine jr.if_eq rfl rfl (by omega) (fun h40 => ?_) (fun h40 => ?_)
      · refine jr.iconst rfl ?_
        exact jr.ireturn rfl rfl rfl (q _ (by omega) (by have hd : N - enf f N C x = r1 := w1_0.symm; have hm : mrf f N C x = r3 := w3_0.symm; unfold rfq; rw [hd, hm]; omega))
      · have sx40 : (1 : Int) ≤ y := by omega
        refine jr.aload_n rfl rfl ?_
        refine jr.getf (i := 3) (v := .ref 3) rfl rfl (by decide) rfl (by decide) rfl rfl rfl rfl ?_
        refine jr.iload_n rfl rfl ?_
        refine jr_v rfl rfl (Or.inl rfl) rfl rfl (by decide) rfl ⟨rfl, Nat.le_of_ble_eq_true rfl, Nat.le_of_ble_eq_true rfl⟩ rfl (jc.deep (c_Headers_offsetOf_x hC_M (show kd 3 = 18 from rfl) (by omega) g_C p0 (by omega) (by omega) (fun r4 z4 w4_0 => ?_)) (by decide))
        refine jr.iload_n rfl rfl ?_
        refine jr.iadd rfl ?_
        refine jr.sipush rfl (by decide) ?_
        refine jr.icmp_le rfl rfl (by omega) (by omega) (fun h56 => ?_) (fun h56 => ?_)
        · refine jr.iconst rfl ?_
          exact jr.ireturn rfl rfl rfl (q _ (by omega) (by have hd : N - enf f N C x = r1 := w1_0.symm; have hm : mrf f N C x = r3 := w3_0.symm; (try have ho : ofs f N C x = r4 := w4_0.symm); unfold rfq; rw [hd, hm]; omega))
        · refine jr.iconst rfl ?_
          refine jr.goto rfl rfl ?_
          exact jr.ireturn rfl rfl rfl (q _ (by omega) (by have hd : N - enf f N C x = r1 := w1_0.symm; have hm : mrf f N C x = r3 := w3_0.symm; (try have ho : ofs f N C x = r4 := w4_0.symm); unfold rfq; rw [hd, hm]; omega))
    · have sx23 : (1 : Int) ≤ r3 := by omega
      refine jr.iload_n rfl rfl ?_
      refine jr.bipush rfl (by decide) ?_
      refine jr.irem rfl (by decide) ?_
      have b5 : j_rem r1 8 = r1 % 8 := j_rem_ex (by omega) (by omega)
      generalize j_rem r1 8 = v5 at b5 ⊢
      refine jr.if_eq rfl rfl (by omega) (fun h30 => ?_) (fun h30 => ?_)
      · refine jr.iconst rfl ?_
        exact jr.ireturn rfl rfl rfl (q _ (by omega) (by have hd : N - enf f N C x = r1 := w1_0.symm; have hm : mrf f N C x = r3 := w3_0.symm; unfold rfq; rw [hd, hm]; omega))
      · have sx30 : (1 : Int) ≤ v5 := by omega
        refine jr.iconst rfl ?_
        refine jr.goto rfl rfl ?_
        exact jr.ireturn rfl rfl rfl (q _ (by omega) (by have hd : N - enf f N C x = r1 := w1_0.symm; have hm : mrf f N C x = r3 := w3_0.symm; unfold rfq; rw [hd, hm]; omega))
  · refine jr.iconst rfl ?_
    exact jr.ireturn rfl rfl rfl (q _ (by omega) (by have hd : N - enf f N C x = r1 := w1_0.symm; unfold rfq; rw [hd]; omega))
end
