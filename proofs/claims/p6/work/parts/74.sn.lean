/-! ===== sums of headers ===== -/
/-- the headers of f stand in t, the bytes are f1 by now -/
def HS2 (M : jm) (t : Nat) (f f1 : Int → Int) (N : Int) : Prop := BY8 M ((M t 7).toNat + 1) f1 ∧ M (M t 7).toNat 1 = N ∧ (0 ≤ N ∧ N ≤ 400) ∧ HQ M t f N ∧ ∀ i : Int, 0 ≤ i → i < 400 → 0 ≤ f i ∧ f i ≤ 255
theorem HS.two {M : jm} {t : Nat} {f : Int → Int} {N : Int} (h : HS M t f N) : HS2 M t f f N := ⟨h.1, h.2.1, h.2.2.1, h.2.2.2, fun i h0 h1 => (h.1 i h0 h1).2⟩
/-- where the sum of a header of kind k lies -/
def sof (k : Int) : Int := if k = 2 then 10 else if k = 7 then 2 else if k = 8 then 16 else 6
/-- the addresses that count for a sum -/
def aD (f f1 : Int → Int) (N n : Int) : Int := sb f1 (hY f N n + (if hX f N n = 2 then 12 else 8)) (if hX f N n = 2 then 8 else 16)
def dsu (k v : Int) : Int := if k = 9 ∧ v = 0 then 65535 else v
def dS0 (f f1 : Int → Int) (N x : Int) : Int := sb (fz f1 (hY f N x + sof (hX f N x))) (hY f N x) ((if hX f N x = 2 then hY f N x + hZ f N x else N) - hY f N x).toNat
/-- the sum that is due -/
def dS (f f1 : Int → Int) (N C x : Int) : Int := if kA f N C x = 2 ∨ kA f N C x = 7 then tn (dS0 f f1 N x) else if kA f N C x = 8 ∨ kA f N C x = 9 then (if nxD f N x.toNat = -1 then -1 else dsu (kA f N C x) (tn (dS0 f f1 N x + (aD f f1 N (nxD f N x.toNat) + (N - hY f N x) + (if kA f N C x = 8 then 6 else 17))))) else -1
theorem sof_r (k : Int) : (k ≠ 2 ∨ sof k = 10) ∧ (k ≠ 7 ∨ sof k = 2) ∧ (k ≠ 8 ∨ sof k = 16) ∧ (k ≠ 9 ∨ sof k = 6) := by
  unfold sof
  (repeat' split) <;> omega
theorem c_Headers_sumOffset_x {A : Nat → Option (Nat × (Nat → Int32))} {Q : Option Value → jm → Prop} {M : jm} (hC_M : CI M) {x : Int} (h_x : (-2147483648) ≤ x ∧ x ≤ 2147483647) (q : ∀ (r : Int), 2 ≤ r ∧ r ≤ 16 → (r = sof x) → Q (some (.int (Int32.ofInt r))) M) : jc A 1 124 [.int (Int32.ofInt (x))] M Q := by
  refine jc_of (m := xm_124) rfl (Nat.le_of_ble_eq_true rfl) rfl ?_
  refine jr.iload_n rfl rfl ?_
  rcases (show x = 2 ∨ x = 7 ∨ x = 8 ∨ (x ≠ 2 ∧ x ≠ 7 ∧ x ≠ 8) by omega) with h1 | h1 | h1 | h1
  · refine jr.lsw_k 2 rfl h1 rfl ?_
    refine jr.bipush rfl (by decide) ?_
    exact jr.ireturn rfl rfl rfl (q _ (by omega) (by unfold sof; (repeat' split) <;> omega))
  · refine jr.lsw_k 7 rfl h1 rfl ?_
    refine jr.iconst rfl ?_
    exact jr.ireturn rfl rfl rfl (q _ (by omega) (by unfold sof; (repeat' split) <;> omega))
  · refine jr.lsw_k 8 rfl h1 rfl ?_
    refine jr.bipush rfl (by decide) ?_
    exact jr.ireturn rfl rfl rfl (q _ (by omega) (by unfold sof; (repeat' split) <;> omega))
  · refine jr.lsw_d rfl (by omega) rfl (fun q hq => by simp only [List.mem_cons, List.not_mem_nil, or_false] at hq; rcases hq with rfl | rfl | rfl <;> (simp only; omega)) rfl ?_
    refine jr.bipush rfl (by decide) ?_
    exact jr.ireturn rfl rfl rfl (q _ (by omega) (by unfold sof; (repeat' split) <;> omega))
theorem c_Headers_addressTwos_x {A : Nat → Option (Nat × (Nat → Int32))} {Q : Option Value → jm → Prop} {f f1 : Int → Int} {N : Int} {M : jm} (hC_M : CI M) {t : Nat} (k_t : kd t = 18) {x : Int} (h_x : 0 ≤ x ∧ x ≤ 11) {C : Int} (g_C : M t 3 = C) (p0 : HS2 M t f f1 N) (p1 : x < C) (p2 : hX f N x = 2 ∨ hX f N x = 3) (q : ∀ (r : Int), 0 ≤ r ∧ r ≤ 30000000 → (r = aD f f1 N x) → Q (some (.long (Int64.ofInt r))) M) : jc A 3 123 [.ref (t), .int (Int32.ofInt (x))] M Q := by
  refine jc_of (m := xm_123) rfl (Nat.le_of_ble_eq_true rfl) rfl ?_
  have b_C : 0 ≤ C ∧ C ≤ 12 := by rw [← g_C]; exact (CI.r hC_M k_t (by decide) 3)
  refine jr.aload_n rfl rfl ?_
  have k1 := kf_18_1 k_t
  refine jr.getf (i := 1) (v := .ref (t + 2)) rfl rfl (Nat.lt_trans (kx_18 k_t).1 (by decide)) (kx_18 k_t).2 (by decide) rfl rfl rfl (jval_ref rfl k1.1) ?_
  refine jr.iload_n rfl rfl ?_
  obtain ⟨v2, e2⟩ : ∃ z_, M ((t + 2)) x = z_ := ⟨_, rfl⟩
  have b2 : 0 ≤ v2 ∧ v2 ≤ 400 := by rw [← e2]; exact (CI.r hC_M k1.2 (by decide) x)
  refine jr.iald (i := x) (x := v2) rfl (Nat.lt_trans (kx_20 k1.2).1 (by decide)) (kx_20 k1.2).2 (by decide) (by omega) (by omega) e2 ?_
  have hr := p0.2.2.2.1.2.1 x (by omega) (by omega)
  have hl := hok_l hr.1 p0.2.2.2.2 p0.2.2.1.2
  have hN4 := p0.2.2.1
  have hr1 := hr.2.1
  have hr2 := hr.2.2.1
  have hr3 := hr.2.2.2
  have lk := lst_k (hX f N x)
  refine jr.aload_n rfl rfl ?_
  have k3 := kf_18_0 k_t
  refine jr.getf (i := 0) (v := .ref (t + 1)) rfl rfl (Nat.lt_trans (kx_18 k_t).1 (by decide)) (kx_18 k_t).2 (by decide) rfl rfl rfl (jval_ref rfl k3.1) ?_
  refine jr.iload_n rfl rfl ?_
  obtain ⟨v4, e4⟩ : ∃ z_, M ((t + 1)) x = z_ := ⟨_, rfl⟩
  have b4 : 0 ≤ v4 ∧ v4 ≤ 11 := by rw [← e4]; exact (CI.r hC_M k3.2 (by decide) x)
  refine jr.iald (i := x) (x := v4) rfl (Nat.lt_trans (kx_19 k3.2).1 (by decide)) (kx_19 k3.2).2 (by decide) (by omega) (by omega) e4 ?_
  refine jr.iconst rfl ?_
  refine jr.icmp_ne rfl rfl (by omega) (by omega) (fun h13 => ?_) (fun h13 => ?_)
  · refine jr.bipush rfl (by decide) ?_
    refine jr.iadd rfl ?_
    refine jr.istore_n rfl (by decide) rfl ?_
    refine jr.aload_n rfl rfl ?_
    obtain ⟨v5, e5⟩ : ∃ z_, M t 7 = z_ := ⟨_, rfl⟩
    have b5 : 0 ≤ v5 ∧ v5 ≤ 597 := by rw [← e5]; exact (CI.r hC_M k_t (by decide) 7)
    have k6 : kd (v5).toNat = 33 := ((congrArg (fun z : Int => kd z.toNat) (show M t 7 = v5 from e5)).symm.trans (CI.x hC_M k_t 7 rfl (by decide)))
    refine jr.getf (i := 7) (x := v5) (v := .ref (v5.toNat)) rfl rfl (Nat.lt_trans (kx_18 k_t).1 (by decide)) (kx_18 k_t).2 (by decide) rfl rfl e5 (jval_mut rfl (kn_18_7 k_t)) ?_
    have k7 := kf_33_0 k6
    refine jr.getf (i := 0) (v := .ref ((v5.toNat) + 1)) rfl rfl (Nat.lt_trans (kx_33 k6).1 (by decide)) (kx_33 k6).2 (by decide) rfl rfl rfl (jval_ref rfl k7.1) ?_
    refine jr.iload_n rfl rfl ?_
    refine jr.iload_n rfl rfl ?_
    refine jr.aload_n rfl rfl ?_
    have k8 := kf_18_0 k_t
    refine jr.getf (i := 0) (v := .ref (t + 1)) rfl rfl (Nat.lt_trans (kx_18 k_t).1 (by decide)) (kx_18 k_t).2 (by decide) rfl rfl rfl (jval_ref rfl k8.1) ?_
    refine jr.iload_n rfl rfl ?_
    refine jr.iald (i := x) (x := v4) rfl (Nat.lt_trans (kx_19 k8.2).1 (by decide)) (kx_19 k8.2).2 (by decide) (by omega) (by omega) e4 ?_
    refine jr.iconst rfl ?_
    refine jr.icmp_ne rfl rfl (by omega) (by omega) (fun h41 => ?_) (fun h41 => ?_)
    · refine jr.bipush rfl (by decide) ?_
      refine jr.iadd rfl ?_
      refine jr_s rfl rfl (Or.inr rfl) ⟨Nat.le_of_ble_eq_true rfl, Nat.le_of_ble_eq_true rfl⟩ rfl rfl (jc.deep (c_PacketWall_addedTwos_pw hC_M k7.2 (by omega) (by omega) (by omega) (by have hq := p0.1; rw [e5] at hq; exact hq) (fun r9 z9 w9_0 => ?_)) (by decide))
      exact jr.lreturn rfl rfl (q _ (by omega) (by unfold aD; rw [← hr1, ← hr2, e4, e2]; first | (rw [if_pos (by omega), if_pos (by omega), w9_0, show v2 + 12 + 8 - (v2 + 12) = 8 from by omega]; rfl) | (rw [if_neg (by omega), if_neg (by omega), w9_0, show v2 + 8 + 16 - (v2 + 8) = 16 from by omega]; rfl) | (exfalso; omega)))
    · refine jr.bipush rfl (by decide) ?_
      refine jr.goto rfl rfl ?_
      refine jr.iadd rfl ?_
      refine jr_s rfl rfl (Or.inr rfl) ⟨Nat.le_of_ble_eq_true rfl, Nat.le_of_ble_eq_true rfl⟩ rfl rfl (jc.deep (c_PacketWall_addedTwos_pw hC_M k7.2 (by omega) (by omega) (by omega) (by have hq := p0.1; rw [e5] at hq; exact hq) (fun r10 z10 w10_0 => ?_)) (by decide))
      exact jr.lreturn rfl rfl (q _ (by omega) (by unfold aD; rw [← hr1, ← hr2, e4, e2]; first | (rw [if_pos (by omega), if_pos (by omega), w10_0, show v2 + 12 + 8 - (v2 + 12) = 8 from by omega]; rfl) | (rw [if_neg (by omega), if_neg (by omega), w10_0, show v2 + 8 + 16 - (v2 + 8) = 16 from by omega]; rfl) | (exfalso; omega)))
  · refine jr.bipush rfl (by decide) ?_
    refine jr.goto rfl rfl ?_
    refine jr.iadd rfl ?_
    refine jr.istore_n rfl (by decide) rfl ?_
    refine jr.aload_n rfl rfl ?_
    obtain ⟨v11, e11⟩ : ∃ z_, M t 7 = z_ := ⟨_, rfl⟩
    have b11 : 0 ≤ v11 ∧ v11 ≤ 597 := by rw [← e11]; exact (CI.r hC_M k_t (by decide) 7)
    have k12 : kd (v11).toNat = 33 := ((congrArg (fun z : Int => kd z.toNat) (show M t 7 = v11 from e11)).symm.trans (CI.x hC_M k_t 7 rfl (by decide)))
    refine jr.getf (i := 7) (x := v11) (v := .ref (v11.toNat)) rfl rfl (Nat.lt_trans (kx_18 k_t).1 (by decide)) (kx_18 k_t).2 (by decide) rfl rfl e11 (jval_mut rfl (kn_18_7 k_t)) ?_
    have k13 := kf_33_0 k12
    refine jr.getf (i := 0) (v := .ref ((v11.toNat) + 1)) rfl rfl (Nat.lt_trans (kx_33 k12).1 (by decide)) (kx_33 k12).2 (by decide) rfl rfl rfl (jval_ref rfl k13.1) ?_
    refine jr.iload_n rfl rfl ?_
    refine jr.iload_n rfl rfl ?_
    refine jr.aload_n rfl rfl ?_
    have k14 := kf_18_0 k_t
    refine jr.getf (i := 0) (v := .ref (t + 1)) rfl rfl (Nat.lt_trans (kx_18 k_t).1 (by decide)) (kx_18 k_t).2 (by decide) rfl rfl rfl (jval_ref rfl k14.1) ?_
    refine jr.iload_n rfl rfl ?_
    refine jr.iald (i := x) (x := v4) rfl (Nat.lt_trans (kx_19 k14.2).1 (by decide)) (kx_19 k14.2).2 (by decide) (by omega) (by omega) e4 ?_
    refine jr.iconst rfl ?_
    refine jr.icmp_ne rfl rfl (by omega) (by omega) (fun h41 => ?_) (fun h41 => ?_)
    · exact absurd h41 (by omega)
    · refine jr.bipush rfl (by decide) ?_
      refine jr.goto rfl rfl ?_
      refine jr.iadd rfl ?_
      refine jr_s rfl rfl (Or.inr rfl) ⟨Nat.le_of_ble_eq_true rfl, Nat.le_of_ble_eq_true rfl⟩ rfl rfl (jc.deep (c_PacketWall_addedTwos_pw hC_M k13.2 (by omega) (by omega) (by omega) (by have hq := p0.1; rw [e11] at hq; exact hq) (fun r15 z15 w15_0 => ?_)) (by decide))
      exact jr.lreturn rfl rfl (q _ (by omega) (by unfold aD; rw [← hr1, ← hr2, e4, e2]; first | (rw [if_pos (by omega), if_pos (by omega), w15_0, show v2 + 12 + 8 - (v2 + 12) = 8 from by omega]; rfl) | (rw [if_neg (by omega), if_neg (by omega), w15_0, show v2 + 8 + 16 - (v2 + 8) = 16 from by omega]; rfl) | (exfalso; omega)))
theorem ds_f {M : jm} {t : Nat} {f f1 : Int → Int} {N C x k : Int} (h : HS2 M t f f1 N) (hC : M t 3 = C) (hk : k = kA f N C x) (h4 : k = 2 ∨ (7 ≤ k ∧ k ≤ 9)) : (0 ≤ x ∧ x < C) ∧ hX f N x = k ∧ M (t + 2) x = hY f N x ∧ M (t + 3) x = hZ f N x ∧ (0 ≤ N ∧ N ≤ 400) ∧ hY f N x + 8 ≤ N ∧ (k ≠ 8 ∨ hY f N x + 20 ≤ N) ∧ (k ≠ 2 ∨ (20 ≤ hZ f N x ∧ hY f N x + hZ f N x ≤ N)) := by
  have hx : 0 ≤ x ∧ x < C := by
    unfold kA at hk
    split at hk <;> omega
  rw [kA_i hx] at hk
  have hr := h.2.2.2.1.2.1 x hx.1 (by omega)
  have hl := hok_l hr.1 h.2.2.2.2 h.2.2.1.2
  rw [← hk] at hl
  have lk := lst_k k
  refine ⟨hx, hk.symm, hr.2.2.1, hr.2.2.2, h.2.2.1, ?_, ?_, ?_⟩
  · rcases h4 with q | q
    · have := lk.1 q; omega
    · rcases (show k = 7 ∨ k = 8 ∨ k = 9 by omega) with q | q | q
      · have := lk.2.2.2.2.2.2.2 (by omega); omega
      · have := lk.2.1 q; omega
      · have := lk.2.2.2.2.2.2.2 (by omega); omega
  · by_cases q : k = 8
    · have := lk.2.1 q; right; omega
    · exact Or.inl q
  · by_cases q : k = 2
    · right; omega
    · exact Or.inl q
theorem dS0_e {f f1 : Int → Int} {N x k Y un : Int} (hk : hX f N x = k) (hy : hY f N x = Y) (hu : (k = 2 ∧ un = Y + hZ f N x) ∨ (k ≠ 2 ∧ un = N)) (h4 : k = 2 ∨ (7 ≤ k ∧ k ≤ 9)) (h0 : 0 ≤ Y) (h8 : Y + 8 ≤ un ∧ un ≤ 400) (h20 : k = 7 ∨ k = 9 ∨ Y + 20 ≤ un) (hf : ∀ i : Int, 0 ≤ i → i < 400 → 0 ≤ f1 i ∧ f1 i ≤ 255) : dS0 f f1 N x = sb f1 Y (un - Y).toNat - tw f1 (Y + sof k) ∧ (0 ≤ dS0 f f1 N x ∧ dS0 f f1 N x ≤ 26112000) ∧ Y + sof k + 1 < un ∧ 0 ≤ sof k ∧ sof k % 2 = 0 := by
  have so := sof_r k
  have s1 : 0 ≤ sof k ∧ sof k % 2 = 0 ∧ Y + sof k + 1 < un := by
    rcases h4 with q | q
    · omega
    · rcases (show k = 7 ∨ k = 8 ∨ k = 9 by omega) with q | q | q <;> omega
  have e : dS0 f f1 N x = sb (fz f1 (Y + sof k)) Y (un - Y).toNat := by
    unfold dS0
    rw [hk, hy]
    rcases hu with ⟨q1, q2⟩ | ⟨q1, q2⟩
    · rw [if_pos q1, q2]
    · rw [if_neg q1, q2]
  rw [e]
  have r := sb_r (f := fz f1 (Y + sof k)) (a := Y) (un - Y).toNat (fun i g0 g1 => by
    have hz := hf i (by omega) (by omega)
    unfold fz
    split <;> omega)
  refine ⟨(sb_zt (by omega) (by omega) (by omega)).symm, ⟨r.1, ?_⟩, s1.2.2, s1.1, s1.2.1⟩
  have : ((un - Y).toNat : Int) ≤ 400 := by omega
  omega
theorem nxD_p {f : Int → Int} {N C x n : Int} (hx : 0 ≤ x ∧ x < C) (hn : n = nxD f N x.toNat) (h1 : n ≠ -1) : (0 ≤ n ∧ n < C) ∧ (hX f N n = 2 ∨ hX f N n = 3) := by
  have q := nxD_r f N x.toNat
  rw [← hn] at q
  rcases q with q | q
  · exact absurd q h1
  · exact ⟨⟨q.1, by omega⟩, q.2.2⟩
theorem c_Headers_kindAt_y {A : Nat → Option (Nat × (Nat → Int32))} {Q : Option Value → jm → Prop} {f f1 : Int → Int} {N : Int} {M : jm} (hC_M : CI M) {t : Nat} (k_t : kd t = 18) {x : Int} (h_x : (-2147483648) ≤ x ∧ x ≤ 2147483647) {C : Int} (g_C : M t 3 = C) (p0 : HS2 M t f f1 N) (q : ∀ (r : Int), (-1) ≤ r ∧ r ≤ 11 → (r = kA f N C x) → Q (some (.int (Int32.ofInt r))) M) : jc A 1 107 [.ref (t), .int (Int32.ofInt (x))] M Q := by
  refine jc_of (m := xm_107) rfl (Nat.le_of_ble_eq_true rfl) rfl ?_
  have b_C : 0 ≤ C ∧ C ≤ 12 := by rw [← g_C]; exact (CI.r hC_M k_t (by decide) 3)
  refine jr.iload_n rfl rfl ?_
  refine jr.if_lt rfl rfl (by omega) (fun h1 => ?_) (fun h1 => ?_)
  · refine jr.iconst rfl ?_
    exact jr.ireturn rfl rfl rfl (q _ (by omega) (by unfold kA; first | (rw [if_neg (by omega)]) | (have hr := p0.2.2.2.1.2.1 x (by omega) (by omega); rw [if_pos (by omega)]; omega)))
  · refine jr.iload_n rfl rfl ?_
    refine jr.aload_n rfl rfl ?_
    refine jr.getf (i := 3) (x := C) (v := .int (Int32.ofInt (C))) rfl rfl (Nat.lt_trans (kx_18 k_t).1 (by decide)) (kx_18 k_t).2 (by decide) rfl rfl g_C rfl ?_
    refine jr.icmp_ge rfl rfl (by omega) (by omega) (fun h9 => ?_) (fun h9 => ?_)
    · refine jr.iconst rfl ?_
      exact jr.ireturn rfl rfl rfl (q _ (by omega) (by unfold kA; first | (rw [if_neg (by omega)]) | (have hr := p0.2.2.2.1.2.1 x (by omega) (by omega); rw [if_pos (by omega)]; omega)))
    · refine jr.aload_n rfl rfl ?_
      have k1 := kf_18_0 k_t
      refine jr.getf (i := 0) (v := .ref (t + 1)) rfl rfl (Nat.lt_trans (kx_18 k_t).1 (by decide)) (kx_18 k_t).2 (by decide) rfl rfl rfl (jval_ref rfl k1.1) ?_
      refine jr.iload_n rfl rfl ?_
      obtain ⟨v2, e2⟩ : ∃ z_, M ((t + 1)) x = z_ := ⟨_, rfl⟩
      have b2 : 0 ≤ v2 ∧ v2 ≤ 11 := by rw [← e2]; exact (CI.r hC_M k1.2 (by decide) x)
      refine jr.iald (i := x) (x := v2) rfl (Nat.lt_trans (kx_19 k1.2).1 (by decide)) (kx_19 k1.2).2 (by decide) (by omega) (by omega) e2 ?_
      refine jr.goto rfl rfl ?_
      exact jr.ireturn rfl rfl rfl (q _ (by omega) (by unfold kA; first | (rw [if_neg (by omega)]) | (have hr := p0.2.2.2.1.2.1 x (by omega) (by omega); rw [if_pos (by omega)]; omega)))
theorem c_Headers_endOf_y {A : Nat → Option (Nat × (Nat → Int32))} {Q : Option Value → jm → Prop} {f f1 : Int → Int} {N : Int} {M : jm} (hC_M : CI M) {t : Nat} (k_t : kd t = 18) {x : Int} (h_x : (-2147483648) ≤ x ∧ x ≤ 2147483647) {C : Int} (g_C : M t 3 = C) (p0 : HS2 M t f f1 N) (q : ∀ (r : Int), (-400) ≤ r ∧ r ≤ 2448 → (r = enf f N C x) → Q (some (.int (Int32.ofInt r))) M) : jc A 2 118 [.ref (t), .int (Int32.ofInt (x))] M Q := by
  refine jc_of (m := xm_118) rfl (Nat.le_of_ble_eq_true rfl) rfl ?_
  have b_C : 0 ≤ C ∧ C ≤ 12 := by rw [← g_C]; exact (CI.r hC_M k_t (by decide) 3)
  refine jr.aload_n rfl rfl ?_
  refine jr.iload_n rfl rfl ?_
  refine jr_v rfl rfl (Or.inl rfl) rfl rfl (Nat.lt_trans (kx_18 k_t).1 (by decide)) (kx_18 k_t).2 ⟨rfl, Nat.le_of_ble_eq_true rfl, Nat.le_of_ble_eq_true rfl⟩ rfl (jc.deep (c_Headers_hasHeader hC_M k_t (by omega) (fun r1 z1 w1_0 w1_1 => ?_)) (by decide))
  refine jr.if_eq rfl rfl (by omega) (fun h5 => ?_) (fun h5 => ?_)
  · refine jr.iconst rfl ?_
    exact jr.ireturn rfl rfl rfl (q _ (by omega) (by unfold enf; first | (rw [if_neg (by omega)]) | (have hr := p0.2.2.2.1.2.1 x (by omega) (by omega); rw [if_pos (by omega)]; omega)))
  · refine jr.aload_n rfl rfl ?_
    have k2 := kf_18_1 k_t
    refine jr.getf (i := 1) (v := .ref (t + 2)) rfl rfl (Nat.lt_trans (kx_18 k_t).1 (by decide)) (kx_18 k_t).2 (by decide) rfl rfl rfl (jval_ref rfl k2.1) ?_
    refine jr.iload_n rfl rfl ?_
    obtain ⟨v3, e3⟩ : ∃ z_, M ((t + 2)) x = z_ := ⟨_, rfl⟩
    have b3 : 0 ≤ v3 ∧ v3 ≤ 400 := by rw [← e3]; exact (CI.r hC_M k2.2 (by decide) x)
    refine jr.iald (i := x) (x := v3) rfl (Nat.lt_trans (kx_20 k2.2).1 (by decide)) (kx_20 k2.2).2 (by decide) (by omega) (by omega) e3 ?_
    refine jr.aload_n rfl rfl ?_
    have k4 := kf_18_2 k_t
    refine jr.getf (i := 2) (v := .ref (t + 3)) rfl rfl (Nat.lt_trans (kx_18 k_t).1 (by decide)) (kx_18 k_t).2 (by decide) rfl rfl rfl (jval_ref rfl k4.1) ?_
    refine jr.iload_n rfl rfl ?_
    obtain ⟨v5, e5⟩ : ∃ z_, M ((t + 3)) x = z_ := ⟨_, rfl⟩
    have b5 : (-400) ≤ v5 ∧ v5 ≤ 2048 := by rw [← e5]; exact (CI.r hC_M k4.2 (by decide) x)
    refine jr.iald (i := x) (x := v5) rfl (Nat.lt_trans (kx_21 k4.2).1 (by decide)) (kx_21 k4.2).2 (by decide) (by omega) (by omega) e5 ?_
    refine jr.iadd rfl ?_
    refine jr.goto rfl rfl ?_
    exact jr.ireturn rfl rfl rfl (q _ (by omega) (by unfold enf; first | (rw [if_neg (by omega)]) | (have hr := p0.2.2.2.1.2.1 x (by omega) (by omega); rw [if_pos (by omega)]; omega)))
theorem c_Headers_dueSum_x {A : Nat → Option (Nat × (Nat → Int32))} {Q : Option Value → jm → Prop} {f f1 : Int → Int} {N : Int} {M : jm} (hC_M : CI M) {t : Nat} (k_t : kd t = 18) {x : Int} (h_x : (-2147483648) ≤ x ∧ x ≤ 2147483647) {C : Int} (g_C : M t 3 = C) (p0 : HS2 M t f f1 N) (q : ∀ (r : Int), (-1) ≤ r ∧ r ≤ 65535 → (r = dS f f1 N C x) → Q (some (.int (Int32.ofInt r))) M) : jc A 4 120 [.ref (t), .int (Int32.ofInt (x))] M Q := by
  refine jc_of (m := xm_120) rfl (Nat.le_of_ble_eq_true rfl) rfl ?_
  have b_C : 0 ≤ C ∧ C ≤ 12 := by rw [← g_C]; exact (CI.r hC_M k_t (by decide) 3)
  refine jr.aload_n rfl rfl ?_
  refine jr.iload_n rfl rfl ?_
  refine jr_v rfl rfl (Or.inl rfl) rfl rfl (Nat.lt_trans (kx_18 k_t).1 (by decide)) (kx_18 k_t).2 ⟨rfl, Nat.le_of_ble_eq_true rfl, Nat.le_of_ble_eq_true rfl⟩ rfl (jc.deep (c_Headers_kindAt_y hC_M k_t (by omega) g_C p0 (fun r1 z1 w1_0 => ?_)) (by decide))
  have hk0 : r1 = -1 ∨ (0 ≤ x ∧ x < C) := (by have hq := w1_0; unfold kA at hq; split at hq <;> omega)
  refine jr.istore_n rfl (by decide) rfl ?_
  refine jr.iload_n rfl rfl ?_
  refine jr.iconst rfl ?_
  refine jr.icmp_eq rfl rfl (by omega) (by omega) (fun h8 => ?_) (fun h8 => ?_)
  · refine jr.aload_n rfl rfl ?_
    have k2 := kf_18_1 k_t
    refine jr.getf (i := 1) (v := .ref (t + 2)) rfl rfl (Nat.lt_trans (kx_18 k_t).1 (by decide)) (kx_18 k_t).2 (by decide) rfl rfl rfl (jval_ref rfl k2.1) ?_
    refine jr.iload_n rfl rfl ?_
    obtain ⟨v3, e3⟩ : ∃ z_, M ((t + 2)) x = z_ := ⟨_, rfl⟩
    have b3 : 0 ≤ v3 ∧ v3 ≤ 400 := by rw [← e3]; exact (CI.r hC_M k2.2 (by decide) x)
    refine jr.iald (i := x) (x := v3) rfl (Nat.lt_trans (kx_20 k2.2).1 (by decide)) (kx_20 k2.2).2 (by decide) (by omega) (by omega) e3 ?_
    obtain ⟨hx0, hkx, hyx, hzx, hN4, hA8, hA20, hA2⟩ := ds_f p0 g_C w1_0 (by omega)
    clear hk0
    refine jr.istore_n rfl (by decide) rfl ?_
    refine jr.iload_n rfl rfl ?_
    refine jr.iconst rfl ?_
    refine jr.icmp_ne rfl rfl (by omega) (by omega) (fun h29 => ?_) (fun h29 => ?_)
    · exact absurd h29 (by omega)
    · refine jr.aload_n rfl rfl ?_
      refine jr.iload_n rfl rfl ?_
      refine jr_v rfl rfl (Or.inl rfl) rfl rfl (Nat.lt_trans (kx_18 k_t).1 (by decide)) (kx_18 k_t).2 ⟨rfl, Nat.le_of_ble_eq_true rfl, Nat.le_of_ble_eq_true rfl⟩ rfl (jc.deep (c_Headers_endOf_y hC_M k_t (by omega) g_C p0 (fun r4 z4 w4_0 => ?_)) (by decide))
      have hen : r4 = hY f N x + hZ f N x := (by rw [w4_0, enf_i hx0])
      refine jr.goto rfl rfl ?_
      refine jr.istore rfl (by decide) rfl ?_
      refine jr.aload_n rfl rfl ?_
      obtain ⟨v5, e5⟩ : ∃ z_, M t 7 = z_ := ⟨_, rfl⟩
      have b5 : 0 ≤ v5 ∧ v5 ≤ 597 := by rw [← e5]; exact (CI.r hC_M k_t (by decide) 7)
      have k6 : kd (v5).toNat = 33 := ((congrArg (fun z : Int => kd z.toNat) (show M t 7 = v5 from e5)).symm.trans (CI.x hC_M k_t 7 rfl (by decide)))
      refine jr.getf (i := 7) (x := v5) (v := .ref (v5.toNat)) rfl rfl (Nat.lt_trans (kx_18 k_t).1 (by decide)) (kx_18 k_t).2 (by decide) rfl rfl e5 (jval_mut rfl (kn_18_7 k_t)) ?_
      have k7 := kf_33_0 k6
      refine jr.getf (i := 0) (v := .ref ((v5.toNat) + 1)) rfl rfl (Nat.lt_trans (kx_33 k6).1 (by decide)) (kx_33 k6).2 (by decide) rfl rfl rfl (jval_ref rfl k7.1) ?_
      refine jr.iload_n rfl rfl ?_
      refine jr.iload rfl rfl ?_
      refine jr_s rfl rfl (Or.inr rfl) ⟨Nat.le_of_ble_eq_true rfl, Nat.le_of_ble_eq_true rfl⟩ rfl rfl (jc.deep (c_PacketWall_addedTwos_pw hC_M k7.2 (by omega) (by omega) (by omega) (by have hq := p0.1; rw [e5] at hq; exact hq) (fun r8 z8 w8_0 => ?_)) (by decide))
      refine jr.aload_n rfl rfl ?_
      have k9 : kd (v5).toNat = 33 := ((congrArg (fun z : Int => kd z.toNat) (show M t 7 = v5 from e5)).symm.trans (CI.x hC_M k_t 7 rfl (by decide)))
      refine jr.getf (i := 7) (x := v5) (v := .ref (v5.toNat)) rfl rfl (Nat.lt_trans (kx_18 k_t).1 (by decide)) (kx_18 k_t).2 (by decide) rfl rfl e5 (jval_mut rfl (kn_18_7 k_t)) ?_
      refine jr.iload_n rfl rfl ?_
      refine jr.iload_n rfl rfl ?_
      refine jr_s rfl rfl (Or.inl rfl) ⟨Nat.le_of_ble_eq_true rfl, Nat.le_of_ble_eq_true rfl⟩ rfl rfl (jc.deep (c_Headers_sumOffset_x hC_M (by omega) (fun r10 z10 w10_0 => ?_)) (by decide))
      obtain ⟨hD, hD1, hD2, hD3, hD4⟩ := dS0_e (f := f) (f1 := f1) (N := N) (x := x) (un := r4) hkx (show hY f N x = v3 from by omega) (by omega) (by omega) (by omega) (by omega) (by omega) (fun i h0 h1 => (p0.1 i h0 h1).2)
      rw [← w10_0] at hD hD2 hD3 hD4
      refine jr.iadd rfl ?_
      refine jr.iconst rfl ?_
      refine jr_v rfl rfl (Or.inl rfl) rfl rfl (Nat.lt_trans (kx_33 k9).1 (by decide)) (kx_33 k9).2 ⟨rfl, Nat.le_of_ble_eq_true rfl, Nat.le_of_ble_eq_true rfl⟩ rfl (jc.deep (c_Packet_numberFrom_h hC_M k9 (by omega) (by have hq := p0.1; rw [e5] at hq; exact hq) (fun r11 z11 w11_0 => ?_)) (by decide))
      rw [← w8_0, ← w11_0.1] at hD
      refine jr.lsub rfl ?_
      refine jr.lstore rfl (by decide) rfl ?_
      refine jr.iload_n rfl rfl ?_
      refine jr.bipush rfl (by decide) ?_
      refine jr.icmp_eq rfl rfl (by omega) (by omega) (fun h82 => ?_) (fun h82 => ?_)
      · exact absurd h82 (by omega)
      · refine jr.iload_n rfl rfl ?_
        refine jr.bipush rfl (by decide) ?_
        refine jr.icmp_ne rfl rfl (by omega) (by omega) (fun h88 => ?_) (fun h88 => ?_)
        · refine jr.lload rfl rfl ?_
          refine jr_s rfl rfl (Or.inr rfl) ⟨Nat.le_of_ble_eq_true rfl, Nat.le_of_ble_eq_true rfl⟩ rfl rfl (jc.deep (c_PacketWall_foldedSum_x hC_M (by omega) (fun r12 z12 w12_0 => ?_)) (by decide))
          skip
          refine jr.istore rfl (by decide) rfl ?_
          refine jr.iload_n rfl rfl ?_
          refine jr.bipush rfl (by decide) ?_
          refine jr.icmp_ne rfl rfl (by omega) (by omega) (fun h148 => ?_) (fun h148 => ?_)
          · refine jr.iload rfl rfl ?_
            exact jr.ireturn rfl rfl rfl (q _ (by omega) (by have hka : kA f N C x = r1 := w1_0.symm; first | (unfold dS; rw [hka, if_pos (by omega), hD, ← w12_0]; done) | (unfold dS; rw [hka, if_pos (by omega), hD, ← w12_0]; omega) | (exfalso; omega)))
          · exact absurd (by omega) h148
        · exact absurd (by omega) h88
  · refine jr.iload_n rfl rfl ?_
    refine jr_s rfl rfl (Or.inr rfl) ⟨Nat.le_of_ble_eq_true rfl, Nat.le_of_ble_eq_true rfl⟩ rfl rfl (jc.deep (c_PacketWall_isCarriedKind_x hC_M (by omega) (fun r13 z13 w13_0 w13_1 => ?_)) (by decide))
    refine jr.if_ne rfl rfl (by omega) (fun h15 => ?_) (fun h15 => ?_)
    · refine jr.aload_n rfl rfl ?_
      have k14 := kf_18_1 k_t
      refine jr.getf (i := 1) (v := .ref (t + 2)) rfl rfl (Nat.lt_trans (kx_18 k_t).1 (by decide)) (kx_18 k_t).2 (by decide) rfl rfl rfl (jval_ref rfl k14.1) ?_
      refine jr.iload_n rfl rfl ?_
      obtain ⟨v15, e15⟩ : ∃ z_, M ((t + 2)) x = z_ := ⟨_, rfl⟩
      have b15 : 0 ≤ v15 ∧ v15 ≤ 400 := by rw [← e15]; exact (CI.r hC_M k14.2 (by decide) x)
      refine jr.iald (i := x) (x := v15) rfl (Nat.lt_trans (kx_20 k14.2).1 (by decide)) (kx_20 k14.2).2 (by decide) (by omega) (by omega) e15 ?_
      obtain ⟨hx0, hkx, hyx, hzx, hN4, hA8, hA20, hA2⟩ := ds_f p0 g_C w1_0 (by omega)
      clear hk0
      refine jr.istore_n rfl (by decide) rfl ?_
      refine jr.iload_n rfl rfl ?_
      refine jr.iconst rfl ?_
      refine jr.icmp_ne rfl rfl (by omega) (by omega) (fun h29 => ?_) (fun h29 => ?_)
      · refine jr.aload_n rfl rfl ?_
        obtain ⟨v16, e16⟩ : ∃ z_, M t 7 = z_ := ⟨_, rfl⟩
        have b16 : 0 ≤ v16 ∧ v16 ≤ 597 := by rw [← e16]; exact (CI.r hC_M k_t (by decide) 7)
        have k17 : kd (v16).toNat = 33 := ((congrArg (fun z : Int => kd z.toNat) (show M t 7 = v16 from e16)).symm.trans (CI.x hC_M k_t 7 rfl (by decide)))
        refine jr.getf (i := 7) (x := v16) (v := .ref (v16.toNat)) rfl rfl (Nat.lt_trans (kx_18 k_t).1 (by decide)) (kx_18 k_t).2 (by decide) rfl rfl e16 (jval_mut rfl (kn_18_7 k_t)) ?_
        obtain ⟨v18, e18⟩ : ∃ z_, M ((v16.toNat)) 1 = z_ := ⟨_, rfl⟩
        have b18 : (-1) ≤ v18 ∧ v18 ≤ 400 := by rw [← e18]; exact (CI.r hC_M k17 (by decide) 1)
        refine jr.getf (i := 1) (x := v18) (v := .int (Int32.ofInt (v18))) rfl rfl (Nat.lt_trans (kx_33 k17).1 (by decide)) (kx_33 k17).2 (by decide) rfl rfl e18 rfl ?_
        refine jr.istore rfl (by decide) rfl ?_
        refine jr.aload_n rfl rfl ?_
        have k19 : kd (v16).toNat = 33 := ((congrArg (fun z : Int => kd z.toNat) (show M t 7 = v16 from e16)).symm.trans (CI.x hC_M k_t 7 rfl (by decide)))
        refine jr.getf (i := 7) (x := v16) (v := .ref (v16.toNat)) rfl rfl (Nat.lt_trans (kx_18 k_t).1 (by decide)) (kx_18 k_t).2 (by decide) rfl rfl e16 (jval_mut rfl (kn_18_7 k_t)) ?_
        have k20 := kf_33_0 k19
        refine jr.getf (i := 0) (v := .ref ((v16.toNat) + 1)) rfl rfl (Nat.lt_trans (kx_33 k19).1 (by decide)) (kx_33 k19).2 (by decide) rfl rfl rfl (jval_ref rfl k20.1) ?_
        refine jr.iload_n rfl rfl ?_
        refine jr.iload rfl rfl ?_
        have hnl : v18 = N := (by have hq := p0.2.1; rw [e16, e18] at hq; exact hq)
        refine jr_s rfl rfl (Or.inr rfl) ⟨Nat.le_of_ble_eq_true rfl, Nat.le_of_ble_eq_true rfl⟩ rfl rfl (jc.deep (c_PacketWall_addedTwos_pw hC_M k20.2 (by omega) (by omega) (by omega) (by have hq := p0.1; rw [e16] at hq; exact hq) (fun r21 z21 w21_0 => ?_)) (by decide))
        refine jr.aload_n rfl rfl ?_
        have k22 : kd (v16).toNat = 33 := ((congrArg (fun z : Int => kd z.toNat) (show M t 7 = v16 from e16)).symm.trans (CI.x hC_M k_t 7 rfl (by decide)))
        refine jr.getf (i := 7) (x := v16) (v := .ref (v16.toNat)) rfl rfl (Nat.lt_trans (kx_18 k_t).1 (by decide)) (kx_18 k_t).2 (by decide) rfl rfl e16 (jval_mut rfl (kn_18_7 k_t)) ?_
        refine jr.iload_n rfl rfl ?_
        refine jr.iload_n rfl rfl ?_
        refine jr_s rfl rfl (Or.inl rfl) ⟨Nat.le_of_ble_eq_true rfl, Nat.le_of_ble_eq_true rfl⟩ rfl rfl (jc.deep (c_Headers_sumOffset_x hC_M (by omega) (fun r23 z23 w23_0 => ?_)) (by decide))
        obtain ⟨hD, hD1, hD2, hD3, hD4⟩ := dS0_e (f := f) (f1 := f1) (N := N) (x := x) (un := v18) hkx (show hY f N x = v15 from by omega) (by omega) (by omega) (by omega) (by omega) (by omega) (fun i h0 h1 => (p0.1 i h0 h1).2)
        rw [← w23_0] at hD hD2 hD3 hD4
        refine jr.iadd rfl ?_
        refine jr.iconst rfl ?_
        refine jr_v rfl rfl (Or.inl rfl) rfl rfl (Nat.lt_trans (kx_33 k22).1 (by decide)) (kx_33 k22).2 ⟨rfl, Nat.le_of_ble_eq_true rfl, Nat.le_of_ble_eq_true rfl⟩ rfl (jc.deep (c_Packet_numberFrom_h hC_M k22 (by omega) (by have hq := p0.1; rw [e16] at hq; exact hq) (fun r24 z24 w24_0 => ?_)) (by decide))
        rw [← w21_0, ← w24_0.1] at hD
        refine jr.lsub rfl ?_
        refine jr.lstore rfl (by decide) rfl ?_
        refine jr.iload_n rfl rfl ?_
        refine jr.bipush rfl (by decide) ?_
        refine jr.icmp_eq rfl rfl (by omega) (by omega) (fun h82 => ?_) (fun h82 => ?_)
        · refine jr.aload_n rfl rfl ?_
          refine jr.iload_n rfl rfl ?_
          refine jr_v rfl rfl (Or.inl rfl) rfl rfl (Nat.lt_trans (kx_18 k_t).1 (by decide)) (kx_18 k_t).2 ⟨rfl, Nat.le_of_ble_eq_true rfl, Nat.le_of_ble_eq_true rfl⟩ rfl (jc.deep (c_Headers_nearestNet_x hC_M k_t (by omega) g_C (fun i h0 h1 => (p0.2.2.2.1.2.1 i h0 (by omega)).2.1) (by omega) (fun r25 z25 w25_0 => ?_)) (by decide))
          have hnd := fun h => nxD_p (n := r25) hx0 w25_0 h
          refine jr.istore rfl (by decide) rfl ?_
          refine jr.iload rfl rfl ?_
          refine jr.iconst rfl ?_
          refine jr.icmp_ne rfl rfl (by omega) (by omega) (fun h101 => ?_) (fun h101 => ?_)
          · refine jr.lload rfl rfl ?_
            refine jr.aload_n rfl rfl ?_
            refine jr.iload rfl rfl ?_
            obtain ⟨hn1, hn2⟩ := hnd (by omega)
            refine jr_v rfl rfl (Or.inl rfl) rfl rfl (Nat.lt_trans (kx_18 k_t).1 (by decide)) (kx_18 k_t).2 ⟨rfl, Nat.le_of_ble_eq_true rfl, Nat.le_of_ble_eq_true rfl⟩ rfl (jc.deep (c_Headers_addressTwos_x hC_M k_t (by omega) g_C p0 hn1.2 hn2 (fun r26 z26 w26_0 => ?_)) (by decide))
            refine jr.iload rfl rfl ?_
            refine jr.iload_n rfl rfl ?_
            refine jr.isub rfl ?_
            refine jr.i2l rfl (by omega) ?_
            refine jr.ladd rfl ?_
            refine jr.iload_n rfl rfl ?_
            refine jr.bipush rfl (by decide) ?_
            refine jr.icmp_ne rfl rfl (by omega) (by omega) (fun h123 => ?_) (fun h123 => ?_)
            · exact absurd h123 (by omega)
            · refine jr.bipush rfl (by decide) ?_
              refine jr.goto rfl rfl ?_
              refine jr.i2l rfl (by omega) ?_
              refine jr.ladd rfl ?_
              refine jr.ladd rfl ?_
              refine jr.lstore rfl (by decide) rfl ?_
              refine jr.lload rfl rfl ?_
              refine jr_s rfl rfl (Or.inr rfl) ⟨Nat.le_of_ble_eq_true rfl, Nat.le_of_ble_eq_true rfl⟩ rfl rfl (jc.deep (c_PacketWall_foldedSum_x hC_M (by omega) (fun r27 z27 w27_0 => ?_)) (by decide))
              skip
              refine jr.istore rfl (by decide) rfl ?_
              refine jr.iload_n rfl rfl ?_
              refine jr.bipush rfl (by decide) ?_
              refine jr.icmp_ne rfl rfl (by omega) (by omega) (fun h148 => ?_) (fun h148 => ?_)
              · refine jr.iload rfl rfl ?_
                exact jr.ireturn rfl rfl rfl (q _ (by omega) (by have hka : kA f N C x = r1 := w1_0.symm; first | (unfold dS; rw [hka, if_neg (by omega), if_pos (by omega), ← w25_0, if_neg (by omega), ← w26_0, show hY f N x = v15 from by omega, hD, show N = v18 from by omega, if_pos (by omega), ← w27_0]; unfold dsu; first | (rw [if_pos (by omega)]) | (rw [if_neg (by omega)])) | (unfold dS; rw [hka, if_neg (by omega), if_pos (by omega), ← w25_0, if_neg (by omega), ← w26_0, show hY f N x = v15 from by omega, hD, show N = v18 from by omega, if_neg (by omega), ← w27_0]; unfold dsu; first | (rw [if_pos (by omega)]) | (rw [if_neg (by omega)])) | (exfalso; omega)))
              · exact absurd (by omega) h148
          · refine jr.iconst rfl ?_
            exact jr.ireturn rfl rfl rfl (q _ (by omega) (by have hka : kA f N C x = r1 := w1_0.symm; unfold dS; rw [hka, if_neg (by omega), if_pos (by omega), if_pos (by omega)]))
        · refine jr.iload_n rfl rfl ?_
          refine jr.bipush rfl (by decide) ?_
          refine jr.icmp_ne rfl rfl (by omega) (by omega) (fun h88 => ?_) (fun h88 => ?_)
          · refine jr.lload rfl rfl ?_
            refine jr_s rfl rfl (Or.inr rfl) ⟨Nat.le_of_ble_eq_true rfl, Nat.le_of_ble_eq_true rfl⟩ rfl rfl (jc.deep (c_PacketWall_foldedSum_x hC_M (by omega) (fun r28 z28 w28_0 => ?_)) (by decide))
            skip
            refine jr.istore rfl (by decide) rfl ?_
            refine jr.iload_n rfl rfl ?_
            refine jr.bipush rfl (by decide) ?_
            refine jr.icmp_ne rfl rfl (by omega) (by omega) (fun h148 => ?_) (fun h148 => ?_)
            · refine jr.iload rfl rfl ?_
              exact jr.ireturn rfl rfl rfl (q _ (by omega) (by have hka : kA f N C x = r1 := w1_0.symm; first | (unfold dS; rw [hka, if_pos (by omega), hD, ← w28_0]; done) | (unfold dS; rw [hka, if_pos (by omega), hD, ← w28_0]; omega) | (exfalso; omega)))
            · exact absurd (by omega) h148
          · refine jr.aload_n rfl rfl ?_
            refine jr.iload_n rfl rfl ?_
            refine jr_v rfl rfl (Or.inl rfl) rfl rfl (Nat.lt_trans (kx_18 k_t).1 (by decide)) (kx_18 k_t).2 ⟨rfl, Nat.le_of_ble_eq_true rfl, Nat.le_of_ble_eq_true rfl⟩ rfl (jc.deep (c_Headers_nearestNet_x hC_M k_t (by omega) g_C (fun i h0 h1 => (p0.2.2.2.1.2.1 i h0 (by omega)).2.1) (by omega) (fun r29 z29 w29_0 => ?_)) (by decide))
            have hnd := fun h => nxD_p (n := r29) hx0 w29_0 h
            refine jr.istore rfl (by decide) rfl ?_
            refine jr.iload rfl rfl ?_
            refine jr.iconst rfl ?_
            refine jr.icmp_ne rfl rfl (by omega) (by omega) (fun h101 => ?_) (fun h101 => ?_)
            · refine jr.lload rfl rfl ?_
              refine jr.aload_n rfl rfl ?_
              refine jr.iload rfl rfl ?_
              obtain ⟨hn1, hn2⟩ := hnd (by omega)
              refine jr_v rfl rfl (Or.inl rfl) rfl rfl (Nat.lt_trans (kx_18 k_t).1 (by decide)) (kx_18 k_t).2 ⟨rfl, Nat.le_of_ble_eq_true rfl, Nat.le_of_ble_eq_true rfl⟩ rfl (jc.deep (c_Headers_addressTwos_x hC_M k_t (by omega) g_C p0 hn1.2 hn2 (fun r30 z30 w30_0 => ?_)) (by decide))
              refine jr.iload rfl rfl ?_
              refine jr.iload_n rfl rfl ?_
              refine jr.isub rfl ?_
              refine jr.i2l rfl (by omega) ?_
              refine jr.ladd rfl ?_
              refine jr.iload_n rfl rfl ?_
              refine jr.bipush rfl (by decide) ?_
              refine jr.icmp_ne rfl rfl (by omega) (by omega) (fun h123 => ?_) (fun h123 => ?_)
              · refine jr.bipush rfl (by decide) ?_
                refine jr.i2l rfl (by omega) ?_
                refine jr.ladd rfl ?_
                refine jr.ladd rfl ?_
                refine jr.lstore rfl (by decide) rfl ?_
                refine jr.lload rfl rfl ?_
                refine jr_s rfl rfl (Or.inr rfl) ⟨Nat.le_of_ble_eq_true rfl, Nat.le_of_ble_eq_true rfl⟩ rfl rfl (jc.deep (c_PacketWall_foldedSum_x hC_M (by omega) (fun r31 z31 w31_0 => ?_)) (by decide))
                skip
                refine jr.istore rfl (by decide) rfl ?_
                refine jr.iload_n rfl rfl ?_
                refine jr.bipush rfl (by decide) ?_
                refine jr.icmp_ne rfl rfl (by omega) (by omega) (fun h148 => ?_) (fun h148 => ?_)
                · exact absurd h148 (by omega)
                · refine jr.iload rfl rfl ?_
                  refine jr.if_ne rfl rfl (by omega) (fun h153 => ?_) (fun h153 => ?_)
                  · refine jr.iload rfl rfl ?_
                    exact jr.ireturn rfl rfl rfl (q _ (by omega) (by have hka : kA f N C x = r1 := w1_0.symm; first | (unfold dS; rw [hka, if_neg (by omega), if_pos (by omega), ← w29_0, if_neg (by omega), ← w30_0, show hY f N x = v15 from by omega, hD, show N = v18 from by omega, if_pos (by omega), ← w31_0]; unfold dsu; first | (rw [if_pos (by omega)]) | (rw [if_neg (by omega)])) | (unfold dS; rw [hka, if_neg (by omega), if_pos (by omega), ← w29_0, if_neg (by omega), ← w30_0, show hY f N x = v15 from by omega, hD, show N = v18 from by omega, if_neg (by omega), ← w31_0]; unfold dsu; first | (rw [if_pos (by omega)]) | (rw [if_neg (by omega)])) | (exfalso; omega)))
                  · refine jr.ldc (x := 65535) rfl rfl (by decide) ?_
                    refine jr.goto rfl rfl ?_
                    exact jr.ireturn rfl rfl rfl (q _ (by omega) (by have hka : kA f N C x = r1 := w1_0.symm; first | (unfold dS; rw [hka, if_neg (by omega), if_pos (by omega), ← w29_0, if_neg (by omega), ← w30_0, show hY f N x = v15 from by omega, hD, show N = v18 from by omega, if_pos (by omega), ← w31_0]; unfold dsu; first | (rw [if_pos (by omega)]) | (rw [if_neg (by omega)])) | (unfold dS; rw [hka, if_neg (by omega), if_pos (by omega), ← w29_0, if_neg (by omega), ← w30_0, show hY f N x = v15 from by omega, hD, show N = v18 from by omega, if_neg (by omega), ← w31_0]; unfold dsu; first | (rw [if_pos (by omega)]) | (rw [if_neg (by omega)])) | (exfalso; omega)))
              · exact absurd (by omega) h123
            · refine jr.iconst rfl ?_
              exact jr.ireturn rfl rfl rfl (q _ (by omega) (by have hka : kA f N C x = r1 := w1_0.symm; unfold dS; rw [hka, if_neg (by omega), if_pos (by omega), if_pos (by omega)]))
      · exact absurd (by omega) h29
    · refine jr.iconst rfl ?_
      exact jr.ireturn rfl rfl rfl (q _ (by omega) (by have hka : kA f N C x = r1 := w1_0.symm; unfold dS; rw [hka, if_neg (by omega), if_neg (by omega)]))
