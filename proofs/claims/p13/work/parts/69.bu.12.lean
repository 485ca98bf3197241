section
/-- the sum that is due -/
noncomputable def dS (f f1 : Int → Int) (N C x : Int) : Int := if kA f N C x = 2 ∨ kA f N C x = 7 then tn (dS0 f f1 N x) else if kA f N C x = 8 ∨ kA f N C x = 9 then (if nxD f N x.toNat = -1 then -1 else dsu (kA f N C x) (tn (dS0 f f1 N x + (aD f f1 N (nxD f N x.toNat) + (N - hY f N x) + (if kA f N C x = 8 then 6 else 17))))) else -1
theorem sof_r (k : Int) : (k ≠ 2 ∨ sof k = 10) ∧ (k ≠ 7 ∨ sof k = 2) ∧ (k ≠ 8 ∨ sof k = 16) ∧ (k ≠ 9 ∨ sof k = 6) := by
  unfold sof
  (repeat' split) <;> omega
theorem c_Headers_sumOffset_x {A : Nat → Option (Nat × (Nat → Int32))} {Q : Option Value → jm → Prop} {M : jm} (hC_M : CI M) {x : Int} (h_x : (-2147483648) ≤ x ∧ x ≤ 2147483647) (q : ∀ (r : Int), 2 ≤ r ∧ r ≤ 16 → (r = sof x) → Q (some (.int (Int32.ofInt r))) M) : jc A 1 124 [.int (Int32.ofInt (x))] M Q := by
  refine jc_of (m := xm_124) rfl (Nat.le_of_ble_eq_true rfl) rfl ?_
  refine jr.iload_n rfl rfl ?_
  rcases (show x = 2 ∨ x = 7 ∨ x = 8 ∨ (x ≠ 2 ∧ x ≠ 7 ∧ x ≠ 8) by omega) with h1 | h1 | h1 | h1
  · refine jr.lsw_k 2 rfl h1 rfl ?_
    refine jr.bipush rfl (by decide) ?_
    exact jr.ireturn rfl rfl rfl (q _ (by omega) (by unfold sof; (repeat' split) <;> omega))
  · refine jr.lsw_k 7 rfl h1 rfl ?_
    refine jr.iconst rfl ?_
    exact jr.ireturn rfl rfl rfl (q _ (by omega) (by unfold sof; (repeat' split) <;> omega))
  · refine jr.lsw_k 8 rfl h1 rfl ?_
    refine jr.bipush rfl (by decide) ?_
    exact jr.ireturn rfl rfl rfl (q _ (by omega) (by unfold sof; (repeat' split) <;> omega))
  · refine jr.lsw_d rfl (by omega) rfl (fun q hq => by simp only [List.mem_cons, List.not_mem_nil, or_false] at hq; rcases hq with rfl | rfl | rfl <;> (simp only; omega)) rfl ?_
    refine jr.bipush rfl (by decide) ?_
    exact jr.ireturn rfl rfl rfl (q _ (by omega) (by unfold sof; (repeat' split) <;> omega))
theorem c_Headers_addressTwos_x {A : Nat → Option (Nat × (Nat → Int32))} {Q : Option Value → jm → Prop} {f f1 : Int → Int} {N : Int} {M : jm} (hC_M : CI M) {t : Nat} (k_t : kd t = 18) {x : Int} (h_x : 0 ≤ x ∧ x ≤ 11) {C : Int} (g_C : M t 3 = C) (p0 : HS2 M t f f1 N) (p1 : x < C) (p2 : hX f N x = 2 ∨ hX f N x = 3) (q : ∀ (r : Int), 0 ≤ r ∧ r ≤ 30000000 → (r = aD f f1 N x) → Q (some (.long (Int64.ofInt r))) M) : jc A 3 123 [.ref (t), .int (Int32.ofInt (x))] M Q := by
  refine jc_of (m := xm_123) rfl (Nat.le_of_ble_eq_true rfl) rfl ?_
  have b_C : 0 ≤ C ∧ C ≤ 12 := by rw [← g_C]; exact (CI.r hC_M k_t (by decide) 3)
  refine jr.aload_n rfl rfl ?_
  have k1 := kf_18_1 k_t
  refine jr.getf (i := 1) (v := .ref (t + 2)) rfl rfl (Nat.lt_trans (kx_18 k_t).1 (by decide)) (kx_18 k_t).2 (by decide) rfl rfl rfl (jval_ref rfl k1.1) ?_
  refine jr.iload_n rfl rfl ?_
  obtain ⟨v2, e2⟩ : ∃ z_, M ((t + 2)) x = z_ := ⟨_, rfl⟩
  have b2 : 0 ≤ v2 ∧ v2 ≤ 400 := by rw [← e2]; exact (CI.r hC_M k1.2 (by decide) x)
  refine jr.iald (i := x) (x := v2) rfl (Nat.lt_trans (kx_20 k1.2).1 (by decide)) (kx_20 k1.2).2 (by decide) (by omega) (by omega) e2 ?_
  have hr := p0.2.2.2.1.2.1 x (by omega) (by omega)
  have hl := hok_l hr.1 p0.2.2.2.2 p0.2.2.1.2
  have hN4 := p0.2.2.1
  have hr1 := hr.2.1
  have hr2 := hr.2.2.1
  have hr3 := hr.2.2.2
  have lk := lst_k (hX f N x)
  refine jr.aload_n rfl rfl ?_
  have k3 := kf_18_0 k_t
  refine jr.getf (i := 0) (v := .ref (t + 1)) rfl rfl (Nat.lt_trans (kx_18 k_t).1 (by decide)) (kx_18 k_t).2 (by decide) rfl rfl rfl (jval_ref rfl k3.1) ?_
  refine jr.iload_n rfl rfl ?_
  obtain ⟨v4, e4⟩ : ∃ z_, M ((t + 1)) x = z_ := ⟨_, rfl⟩
  have b4 : 0 ≤ v4 ∧ v4 ≤ 11 := by rw [← e4]; exact (CI.r hC_M k3.2 (by decide) x)
  refine jr.iald (i := x) (x := v4) rfl (Nat.lt_trans (kx_19 k3.2).1 (by decide)) (kx_19 k3.2).2 (by decide) (by omega) (by omega) e4 ?_
  refine jr.iconst rfl ?_
  refine jr.icmp_ne rfl rfl (by omega) (by omega) (fun h13 => ?_) (fun h13 => ?_)
  · refine jr.bipush rfl (by decide) ?_
    refine jr.iadd rfl ?_
    refine jr.istore_n (ls' := [_, _, _]) rfl (by decide) rfl ?_
    refine jr.aload_n rfl rfl ?_
    obtain ⟨v5, e5⟩ : ∃ z_, M t 7 = z_ := ⟨_, rfl⟩
    have b5 : 0 ≤ v5 ∧ v5 ≤ 597 := by rw [← e5]; exact (CI.r hC_M k_t (by decide) 7)
    have k6 : kd (v5).toNat = 33 := ((congrArg (fun z : Int => kd z.toNat) (show M t 7 = v5 from e5)).symm.trans (CI.x hC_M k_t 7 rfl (by decide)))
    refine jr.getf (i := 7) (x := v5) (v := .ref (v5.toNat)) rfl rfl (Nat.lt_trans (kx_18 k_t).1 (by decide)) (kx_18 k_t).2 (by decide) rfl rfl e5 (jval_mut rfl (kn_18_7 k_t)) ?_
    have k7 := kf_33_0 k6
    refine jr.getf (i := 0) (v := .ref ((v5.toNat) + 1)) rfl rfl (Nat.lt_trans (kx_33 k6).1 (by decide)) (kx_33 k6).2 (by decide) rfl rfl rfl (jval_ref rfl k7.1) ?_
    refine jr.iload_n rfl rfl ?_
    refine jr.iload_n rfl rfl ?_
    refine jr.aload_n rfl rfl ?_
    have k8 := kf_18_0 k_t
    refine jr.getf (i := 0) (v := .ref (t + 1)) rfl rfl (Nat.lt_trans (kx_18 k_t).1 (by decide)) (kx_18 k_t).2 (by decide) rfl rfl rfl (jval_ref rfl k8.1) ?_
    refine jr.iload_n rfl rfl ?_
    refine jr.iald (i := x) (x := v4) rfl (Nat.lt_trans (kx_19 k8.2).1 (by decide)) (kx_19 k8.2).2 (by decide) (by omega) (by omega) e4 ?_
    refine jr.iconst rfl ?_
    refine jr.icmp_ne rfl rfl (by omega) (by omega) (fun h41 => ?_) (fun h41 => ?_)
    · refine jr.bipush rfl (by decide) ?_
      refine jr.iadd rfl ?_
      refine jr_s rfl rfl (Or.inr rfl) ⟨Nat.le_of_ble_eq_true rfl, Nat.le_of_ble_eq_true rfl⟩ rfl rfl (jc.deep (c_PacketWall_addedTwos_pw hC_M k7.2 (by omega) (by omega) (by omega) (by have hq := p0.1; rw [e5] at hq; exact hq) (fun r9 z9 w9_0 => ?_)) (by decide))
      exact jr.lreturn rfl rfl (q _ (by omega) (by unfold aD; rw [← hr1, ← hr2, e4, e2]; first | (rw [if_pos (by omega), if_pos (by omega), w9_0, show v2 + 12 + 8 - (v2 + 12) = 8 from by omega]; rfl) | (rw [if_neg (by omega), if_neg (by omega), w9_0, show v2 + 8 + 16 - (v2 + 8) = 16 from by omega]; rfl) | (exfalso; omega)))
    · exact absurd h13 h41
  · refine jr.bipush rfl (by decide) ?_
    refine jr.goto rfl rfl ?_
    refine jr.iadd rfl ?_
    refine jr.istore_n (ls' := [_, _, _]) rfl (by decide) rfl ?_
    refine jr.aload_n rfl rfl ?_
    obtain ⟨v11, e11⟩ : ∃ z_, M t 7 = z_ := ⟨_, rfl⟩
    have b11 : 0 ≤ v11 ∧ v11 ≤ 597 := by rw [← e11]; exact (CI.r hC_M k_t (by decide) 7)
    have k12 : kd (v11).toNat = 33 := ((congrArg (fun z : Int => kd z.toNat) (show M t 7 = v11 from e11)).symm.trans (CI.x hC_M k_t 7 rfl (by decide)))
    refine jr.getf (i := 7) (x := v11) (v := .ref (v11.toNat)) rfl rfl (Nat.lt_trans (kx_18 k_t).1 (by decide)) (kx_18 k_t).2 (by decide) rfl rfl e11 (jval_mut rfl (kn_18_7 k_t)) ?_
    have k13 := kf_33_0 k12
    refine jr.getf (i := 0) (v := .ref ((v11.toNat) + 1)) rfl rfl (Nat.lt_trans (kx_33 k12).1 (by decide)) (kx_33 k12).2 (by decide) rfl rfl rfl (jval_ref rfl k13.1) ?_
    refine jr.iload_n rfl rfl ?_
    refine jr.iload_n rfl rfl ?_
    refine jr.aload_n rfl rfl ?_
    have k14 := kf_18_0 k_t
    refine jr.getf (i := 0) (v := .ref (t + 1)) rfl rfl (Nat.lt_trans (kx_18 k_t).1 (by decide)) (kx_18 k_t).2 (by decide) rfl rfl rfl (jval_ref rfl k14.1) ?_
    refine jr.iload_n rfl rfl ?_
    refine jr.iald (i := x) (x := v4) rfl (Nat.lt_trans (kx_19 k14.2).1 (by decide)) (kx_19 k14.2).2 (by decide) (by omega) (by omega) e4 ?_
    refine jr.iconst rfl ?_
    refine jr.icmp_ne rfl rfl (by omega) (by omega) (fun h41 => ?_) (fun h41 => ?_)
    · exact absurd h41 (by omega)
    · refine jr.bipush rfl (by decide) ?_
      refine jr.goto rfl rfl ?_
      refine jr.iadd rfl ?_
      refine jr_s rfl rfl (Or.inr rfl) ⟨Nat.le_of_ble_eq_true rfl, Nat.le_of_ble_eq_true rfl⟩ rfl rfl (jc.deep (c_PacketWall_addedTwos_pw hC_M k13.2 (by omega) (by omega) (by omega) (by have hq := p0.1; rw [e11] at hq; exact hq) (fun r15 z15 w15_0 => ?_)) (by decide))
      exact jr.lreturn rfl rfl (q _ (by omega) (by unfold aD; rw [← hr1, ← hr2, e4, e2]; first | (rw [if_pos (by omega), if_pos (by omega), w15_0, show v2 + 12 + 8 - (v2 + 12) = 8 from by omega]; rfl) | (rw [if_neg (by omega), if_neg (by omega), w15_0, show v2 + 8 + 16 - (v2 + 8) = 16 from by omega]; rfl) | (exfalso; omega)))
theorem ds_f {M : jm} {t : Nat} {f f1 : Int → Int} {N C x k : Int} (h : HS2 M t f f1 N) (hC : M t 3 = C) (hk : k = kA f N C x) (h4 : k = 2 ∨ (7 ≤ k ∧ k ≤ 9)) : (0 ≤ x ∧ x < C) ∧ hX f N x = k ∧ M (t + 2) x = hY f N x ∧ M (t + 3) x = hZ f N x ∧ (0 ≤ N ∧ N ≤ 400) ∧ hY f N x + 8 ≤ N ∧ (k ≠ 8 ∨ hY f N x + 20 ≤ N) ∧ (k ≠ 2 ∨ (20 ≤ hZ f N x ∧ hY f N x + hZ f N x ≤ N)) := by
  have hx : 0 ≤ x ∧ x < C := by
    unfold kA at hk
    split at hk <;> omega
  rw [kA_i hx] at hk
  have hr := h.2.2.2.1.2.1 x hx.1 (by omega)
  have hl := hok_l hr.1 h.2.2.2.2 h.2.2.1.2
  rw [← hk] at hl
  have lk := lst_k k
  refine ⟨hx, hk.symm, hr.2.2.1, hr.2.2.2, h.2.2.1, ?_, ?_, ?_⟩
  · rcases h4 with q | q
    · have := lk.1 q; omega
    · rcases (show k = 7 ∨ k = 8 ∨ k = 9 by omega) with q | q | q
      · have := lk.2.2.2.2.2.2.2 (by omega); omega
      · have := lk.2.1 q; omega
      · have := lk.2.2.2.2.2.2.2 (by omega); omega
  · by_cases q : k = 8
    · have := lk.2.1 q; right; omega
    · exact Or.inl q
  · by_cases q : k = 2
    · right; omega
    · exact Or.inl q
end
