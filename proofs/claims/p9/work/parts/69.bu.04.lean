section
theorem c_PacketWall_addedTwos_pw_L5 {A : Nat → Option (Nat × (Nat → Int32))} {Q : Option Value → jm → Prop} {f : Int → Int} {M : jm} (hC_M : CI M) {x : Nat} (k_x : kd x = 34) {y : Int} {z : Int} (q : ∀ (r : Int), 0 ≤ r ∧ r ≤ 30000000 → (r = sb f y (z - y).toNat) → Q (some (.long (Int64.ofInt r))) M) : ∀ (nM : Nat) (n : Int) (i : Int), 0 ≤ y ∧ y ≤ 400 → 0 ≤ z ∧ z ≤ 400 → 0 ≤ n ∧ n ≤ 26300000 → 0 ≤ i ∧ i ≤ 402 → ((i ≤ z ∧ n = sb f y (i - y).toNat ∧ (i - y) % 2 = 0) ∨ (i = z + 1 ∧ n = sb f y (z - y).toNat)) → (BY8 M x f) → (y ≤ i ∧ y ≤ z ∧ n ≤ 65535 * (i - y)) → z - i ≤ nM → jr A 1 xm_54 5 [(1, .int (Int32.ofInt (y))), (2, .int (Int32.ofInt (z))), (3, .long (Int64.ofInt (n))), (5, .int (Int32.ofInt (i))), (0, .ref (x))] [] M Q := by
  intro nM
  induction nM using Nat.strongRecOn with
  | ind nM ih =>
    intro n i h_y h_z h_n h_i hy0 hy1 hy2 hm
    refine jr.iload rfl rfl ?_
    refine jr.iload_n rfl rfl ?_
    refine jr.icmp_ge rfl rfl (by omega) (by omega) (fun h8 => ?_) (fun h8 => ?_)
    · refine jr.lload_n rfl rfl ?_
      exact jr.lreturn rfl rfl (q _ (by omega) (by rcases hy0 with ⟨h1, h2, h3⟩ | ⟨h1, h2⟩; rw [h2, show i = z from by omega]; exact h2))
    · refine jr.lload_n rfl rfl ?_
      refine jr.iload rfl rfl ?_
      refine jr.iconst rfl ?_
      refine jr.iadd rfl ?_
      refine jr.iload_n rfl rfl ?_
      refine jr.icmp_ge rfl rfl (by omega) (by omega) (fun h17 => ?_) (fun h17 => ?_)
      · refine jr.aload_n rfl rfl ?_
        refine jr.iload rfl rfl ?_
        refine jr.iconst rfl ?_
        refine jr_s rfl rfl (Or.inl rfl) ⟨Nat.le_of_ble_eq_true rfl, Nat.le_of_ble_eq_true rfl⟩ rfl rfl (jc.deep (c_PacketWall_numberAt_pw hC_M k_x (by omega) (by omega) (by omega) hy1 (fun r1 z1 w1_0 => ?_)) (by decide))
        have hv1 : r1 = f i := (by have hq := w1_0; rw [show (1 : Int).toNat = 1 from rfl, nbs_1, jl_w_id (by have h1 := hy1 i (by omega) (by omega); omega)] at hq; exact hq)
        have hb1 := hy1 i (by omega) (by omega)
        refine jr.bipush rfl (by decide) ?_
        refine jr.lshl rfl ?_
        have b2 : jl_shl r1 8 = r1 * 256 := jl_shl_8x (by omega)
        generalize jl_shl r1 8 = v2 at b2 ⊢
        refine jr.ladd rfl ?_
        refine jr.lstore_n rfl (by decide) rfl ?_
        refine jr.iinc rfl rfl (by decide) rfl ?_
        refine jr.goto rfl rfl ?_
        refine jr.pick [2, 3, 1, 0, 4] rfl rfl ?_
        exact ih (nM - 1) (by omega) (n + v2) (i + 2) (by omega) (by omega) (by omega) (by omega) (by rcases hy0 with ⟨h1, h2, h3⟩ | ⟨h1, h2⟩; exact Or.inr ⟨by omega, by rw [show z = i + 1 from by omega, sb_s (by omega), if_pos (by omega), ← h2]; omega⟩; omega) hy1 (by omega) (by omega)
      · refine jr.aload_n rfl rfl ?_
        refine jr.iload rfl rfl ?_
        refine jr.iconst rfl ?_
        refine jr_s rfl rfl (Or.inl rfl) ⟨Nat.le_of_ble_eq_true rfl, Nat.le_of_ble_eq_true rfl⟩ rfl rfl (jc.deep (c_PacketWall_numberAt_pw hC_M k_x (by omega) (by omega) (by omega) hy1 (fun r3 z3 w3_0 => ?_)) (by decide))
        have hv3 : r3 = f i * 256 + f (i + 1) := (by have hq := w3_0; rw [show (2 : Int).toNat = 2 from rfl, nbs_2, jl_w_id (by have h1 := hy1 i (by omega) (by omega); have h2 := hy1 (i + 1) (by omega) (by omega); omega)] at hq; exact hq)
        have hb1 := hy1 i (by omega) (by omega)
        have hb2 := hy1 (i + 1) (by omega) (by omega)
        refine jr.goto rfl rfl ?_
        refine jr.ladd rfl ?_
        refine jr.lstore_n rfl (by decide) rfl ?_
        refine jr.iinc rfl rfl (by decide) rfl ?_
        refine jr.goto rfl rfl ?_
        refine jr.pick [2, 3, 1, 0, 4] rfl rfl ?_
        exact ih (nM - 1) (by omega) (n + r3) (i + 2) (by omega) (by omega) (by omega) (by omega) (by rcases hy0 with ⟨h1, h2, h3⟩ | ⟨h1, h2⟩; exact Or.inl ⟨by omega, by rw [show i + 2 = (i + 1) + 1 from by omega, sb_s (i := i + 1) (by omega), sb_s (by omega), if_pos (by omega), if_neg (by omega), ← h2]; omega, by omega⟩; omega) hy1 (by omega) (by omega)
theorem c_PacketWall_addedTwos_pw {A : Nat → Option (Nat × (Nat → Int32))} {Q : Option Value → jm → Prop} {f : Int → Int} {M : jm} (hC_M : CI M) {x : Nat} (k_x : kd x = 34) {y : Int} (h_y : 0 ≤ y ∧ y ≤ 400) {z : Int} (h_z : 0 ≤ z ∧ z ≤ 400) (p0 : y ≤ z) (p1 : BY8 M x f) (q : ∀ (r : Int), 0 ≤ r ∧ r ≤ 30000000 → (r = sb f y (z - y).toNat) → Q (some (.long (Int64.ofInt r))) M) : jc A 2 54 [.ref (x), .int (Int32.ofInt (y)), .int (Int32.ofInt (z))] M Q := by
  refine jc_of (m := xm_54) rfl (Nat.le_of_ble_eq_true rfl) rfl ?_
  refine jr.lconst (x := 0) rfl (by decide) ?_
  refine jr.lstore_n rfl (by decide) rfl ?_
  refine jr.iload_n rfl rfl ?_
  refine jr.istore rfl (by decide) rfl ?_
  refine jr.pick [3, 4, 1, 0, 2] rfl rfl ?_
  exact c_PacketWall_addedTwos_pw_L5 hC_M k_x q 400 0 y (by omega) (by omega) (by omega) (by omega) (Or.inl ⟨by omega, (sb_0 _ _).symm, by omega⟩) p1 (by omega) (by omega)
theorem c_PacketWall_foldedSum_x_L5 {A : Nat → Option (Nat × (Nat → Int32))} {Q : Option Value → jm → Prop} {M : jm} (hC_M : CI M) {x : Int} (q : ∀ (r : Int), 0 ≤ r ∧ r ≤ 65535 → (r = tn x) → Q (some (.int (Int32.ofInt r))) M) : ∀ (nM : Nat) (n : Int) (i : Int), 0 ≤ n ∧ n ≤ 4294967295 → 0 ≤ i ∧ i ≤ 8 → (fin n = fin x) → ((i = 0) ∨ (i = 1 ∧ n ≤ 131070) ∨ (2 ≤ i ∧ n ≤ 65535)) → 8 - i ≤ nM → jr A 0 xm_55 5 [(2, .long (Int64.ofInt (n))), (4, .int (Int32.ofInt (i)))] [] M Q := by
  intro nM
  induction nM using Nat.strongRecOn with
  | ind nM ih =>
    intro n i h_n h_i hy0 hy1 hm
    refine jr.iload rfl rfl ?_
    refine jr.bipush rfl (by decide) ?_
    refine jr.icmp_ge rfl rfl (by omega) (by omega) (fun h9 => ?_) (fun h9 => ?_)
    · refine jr.lload_n rfl rfl ?_
      refine jr.ldc2 (x := (-1)) rfl rfl (by decide) ?_
      refine jr.lxor rfl ?_
      have b1 : jl_xor n (-1) = -n - 1 := jl_xor_n _ (by omega)
      generalize jl_xor n (-1) = v1 at b1 ⊢
      refine jr.l2i rfl ?_
      refine jr.ldcw (x := 65535) rfl rfl (by decide) ?_
      refine jr.iand rfl ?_
      have b2 : j_and v1 65535 = v1 % 65536 := j_and_m 16 (by decide) _
      generalize j_and v1 65535 = v2 at b2 ⊢
      exact jr.ireturn rfl rfl rfl (q _ (by omega) (by unfold tn; rw [← hy0, fin_e (by omega)]; omega))
    · refine jr.lload_n rfl rfl ?_
      refine jr.ldc2 (x := 65535) rfl rfl (by decide) ?_
      refine jr.lcmp_le rfl rfl rfl (by omega) (by omega) (fun h16 => ?_) (fun h16 => ?_)
      · refine jr.lload_n rfl rfl ?_
        refine jr.ldc2 (x := (-1)) rfl rfl (by decide) ?_
        refine jr.lxor rfl ?_
        have b3 : jl_xor n (-1) = -n - 1 := jl_xor_n _ (by omega)
        generalize jl_xor n (-1) = v3 at b3 ⊢
        refine jr.l2i rfl ?_
        refine jr.ldcw (x := 65535) rfl rfl (by decide) ?_
        refine jr.iand rfl ?_
        have b4 : j_and v3 65535 = v3 % 65536 := j_and_m 16 (by decide) _
        generalize j_and v3 65535 = v4 at b4 ⊢
        exact jr.ireturn rfl rfl rfl (q _ (by omega) (by unfold tn; rw [← hy0, fin_e (by omega)]; omega))
      · refine jr.lload_n rfl rfl ?_
        refine jr.ldc2 (x := 65535) rfl rfl (by decide) ?_
        refine jr.land rfl ?_
        have b5 : jl_and n 65535 = n % 65536 := jl_and_mask 16 (by decide) (by omega) (by omega)
        generalize jl_and n 65535 = v5 at b5 ⊢
        refine jr.lload_n rfl rfl ?_
        refine jr.bipush rfl (by decide) ?_
        refine jr.lushr rfl ?_
        have b6 : jl_ushr n 16 = n / 65536 ∧ 0 ≤ jl_ushr n 16 ∧ jl_ushr n 16 ≤ 65535 := ⟨jl_ushr_16 (by omega), by rw [jl_ushr_16 (by omega)]; omega⟩
        generalize jl_ushr n 16 = v6 at b6 ⊢
        refine jr.ladd rfl ?_
        refine jr.lstore_n rfl (by decide) rfl ?_
        refine jr.iinc rfl rfl (by decide) rfl ?_
        refine jr.goto rfl rfl ?_
        refine jr.pick [1, 0] rfl rfl ?_
        exact ih (nM - 1) (by omega) (v5 + v6) (i + 1) (by omega) (by omega) (by have hq := fin_s (v := n) (by omega) (by omega); rw [← hy0, ← hq.1]; unfold fo; congr 1; omega) (by have hq := fin_s (v := n) (by omega) (by omega); unfold fo at hq; omega) (by omega)
theorem c_PacketWall_foldedSum_x {A : Nat → Option (Nat × (Nat → Int32))} {Q : Option Value → jm → Prop} {M : jm} (hC_M : CI M) {x : Int} (h_x : 0 ≤ x ∧ x ≤ 4294967295) (q : ∀ (r : Int), 0 ≤ r ∧ r ≤ 65535 → (r = tn x) → Q (some (.int (Int32.ofInt r))) M) : jc A 1 55 [.long (Int64.ofInt (x))] M Q := by
  refine jc_of (m := xm_55) rfl (Nat.le_of_ble_eq_true rfl) rfl ?_
  refine jr.lload_n rfl rfl ?_
  refine jr.lstore_n rfl (by decide) rfl ?_
  refine jr.iconst rfl ?_
  refine jr.istore rfl (by decide) rfl ?_
  refine jr.pick [1, 0] rfl rfl ?_
  exact c_PacketWall_foldedSum_x_L5 hC_M  q 8 x 0 (by omega) (by omega) rfl (by omega) (by omega)
end
section
/-! ===== sums of headers ===== -/
/-- the headers of f stand in t, the bytes are f1 by now -/
noncomputable def HS2 (M : jm) (t : Nat) (f f1 : Int → Int) (N : Int) : Prop := BY8 M ((M t 7).toNat + 1) f1 ∧ M (M t 7).toNat 1 = N ∧ (0 ≤ N ∧ N ≤ 400) ∧ HQ M t f N ∧ ∀ i : Int, 0 ≤ i → i < 400 → 0 ≤ f i ∧ f i ≤ 255
theorem HS.two {M : jm} {t : Nat} {f : Int → Int} {N : Int} (h : HS M t f N) : HS2 M t f f N := ⟨h.1, h.2.1, h.2.2.1, h.2.2.2, fun i h0 h1 => (h.1 i h0 h1).2⟩
/-- where the sum of a header of kind k lies -/
noncomputable def sof (k : Int) : Int := if k = 2 then 10 else if k = 7 then 2 else if k = 8 then 16 else 6
/-- the addresses that count for a sum -/
noncomputable def aD (f f1 : Int → Int) (N n : Int) : Int := sb f1 (hY f N n + (if hX f N n = 2 then 12 else 8)) (if hX f N n = 2 then 8 else 16)
noncomputable def dsu (k v : Int) : Int := if k = 9 ∧ v = 0 then 65535 else v
noncomputable def dS0 (f f1 : Int → Int) (N x : Int) : Int := sb (fz f1 (hY f N x + sof (hX f N x))) (hY f N x) ((if hX f N x = 2 then hY f N x + hZ f N x else N) - hY f N x).toNat
/-- the sum that is due -/
noncomputable def dS (f f1 : Int → Int) (N C x : Int) : Int := if kA f N C x = 2 ∨ kA f N C x = 7 then tn (dS0 f f1 N x) else if kA f N C x = 8 ∨ kA f N C x = 9 then (if nxD f N x.toNat = -1 then -1 else dsu (kA f N C x) (tn (dS0 f f1 N x + (aD f f1 N (nxD f N x.toNat) + (N - hY f N x) + (if kA f N C x = 8 then 6 else 17))))) else -1
theorem sof_r (k : Int) : (k ≠ 2 ∨ sof k = 10) ∧ (k ≠ 7 ∨ sof k = 2) ∧ (k ≠ 8 ∨ sof k = 16) ∧ (k ≠ 9 ∨ sof k = 6) := by
  unfold sof
  (repeat' split) <;> omega
theorem c_Headers_sumOffset_x {A : Nat → Option (Nat × (Nat → Int32))} {Q : Option Value → jm → Prop} {M : jm} (hC_M : CI M) {x : Int} (h_x : (-2147483648) ≤ x ∧ x ≤ 2147483647) (q : ∀ (r : Int), 2 ≤ r ∧ r ≤ 16 → (r = sof x) → Q (some (.int (Int32.ofInt r))) M) : jc A 1 124 [.int (Int32.ofInt (x))] M Q := by
  refine jc_of (m := xm_124) rfl (Nat.le_of_ble_eq_true rfl) rfl ?_
  refine jr.iload_n rfl rfl ?_
  rcases (show x = 2 ∨ x = 7 ∨ x = 8 ∨ (x ≠ 2 ∧ x ≠ 7 ∧ x ≠ 8) by omega) with h1 | h1 | h1 | h1
  · refine jr.lsw_k 2 rfl h1 rfl ?_
    refine jr.bipush rfl (by decide) ?_
    exact jr.ireturn rfl rfl rfl (q _ (by omega) (by unfold sof; (repeat' split) <;> omega))
  · refine jr.lsw_k 7 rfl h1 rfl ?_
    refine jr.iconst rfl ?_
    exact jr.ireturn rfl rfl rfl (q _ (by omega) (by unfold sof; (repeat' split) <;> omega))
  · refine jr.lsw_k 8 rfl h1 rfl ?_
    refine jr.bipush rfl (by decide) ?_
    exact jr.ireturn rfl rfl rfl (q _ (by omega) (by unfold sof; (repeat' split) <;> omega))
  · refine jr.lsw_d rfl (by omega) rfl (fun q hq => by simp only [List.mem_cons, List.not_mem_nil, or_false] at hq; rcases hq with rfl | rfl | rfl <;> (simp only; omega)) rfl ?_
    refine jr.bipush rfl (by decide) ?_
    exact jr.ireturn rfl rfl rfl (q _ (by omega) (by unfold sof; (repeat' split) <;> omega))
theorem c_Headers_addressTwos_x {A : Nat → Option (Nat × (Nat → Int32))} {Q : Option Value → jm → Prop} {f f1 : Int → Int} {N : Int} {M : jm} (hC_M : CI M) {t : Nat} (k_t : kd t = 18) {x : Int} (h_x : 0 ≤ x ∧ x ≤ 11) {C : Int} (g_C : M t 3 = C) (p0 : HS2 M t f f1 N) (p1 : x < C) (p2 : hX f N x = 2 ∨ hX f N x = 3) (q : ∀ (r : Int), 0 ≤ r ∧ r ≤ 30000000 → (r = aD f f1 N x) → Q (some (.long (Int64.ofInt r))) M) : jc A 3 123 [.ref (t), .int (Int32.ofInt (x))] M Q := by
  refine jc_of (m := xm_123) rfl (Nat.le_of_ble_eq_true rfl) rfl ?_
  have b_C : 0 ≤ C ∧ C ≤ 12 := by rw [← g_C]; exact (CI.r hC_M k_t (by decide) 3)
  refine jr.aload_n rfl rfl ?_
  have k1 := kf_18_1 k_t
  refine jr.getf (i := 1) (v := .ref (t + 2)) rfl rfl (Nat.lt_trans (kx_18 k_t).1 (by decide)) (kx_18 k_t).2 (by decide) rfl rfl rfl (jval_ref rfl k1.1) ?_
  refine jr.iload_n rfl rfl ?_
  obtain ⟨v2, e2⟩ : ∃ z_, M ((t + 2)) x = z_ := ⟨_, rfl⟩
  have b2 : 0 ≤ v2 ∧ v2 ≤ 400 := by rw [← e2]; exact (CI.r hC_M k1.2 (by decide) x)
  refine jr.iald (i := x) (x := v2) rfl (Nat.lt_trans (kx_20 k1.2).1 (by decide)) (kx_20 k1.2).2 (by decide) (by omega) (by omega) e2 ?_
  have hr := p0.2.2.2.1.2.1 x (by omega) (by omega)
  have hl := hok_l hr.1 p0.2.2.2.2 p0.2.2.1.2
  have hN4 := p0.2.2.1
  have hr1 := hr.2.1
  have hr2 := hr.2.2.1
  have hr3 := hr.2.2.2
  have lk := lst_k (hX f N x)
  refine jr.aload_n rfl rfl ?_
  have k3 := kf_18_0 k_t
  refine jr.getf (i := 0) (v := .ref (t + 1)) rfl rfl (Nat.lt_trans (kx_18 k_t).1 (by decide)) (kx_18 k_t).2 (by decide) rfl rfl rfl (jval_ref rfl k3.1) ?_
  refine jr.iload_n rfl rfl ?_
  obtain ⟨v4, e4⟩ : ∃ z_, M ((t + 1)) x = z_ := ⟨_, rfl⟩
  have b4 : 0 ≤ v4 ∧ v4 ≤ 11 := by rw [← e4]; exact (CI.r hC_M k3.2 (by decide) x)
  refine jr.iald (i := x) (x := v4) rfl (Nat.lt_trans (kx_19 k3.2).1 (by decide)) (kx_19 k3.2).2 (by decide) (by omega) (by omega) e4 ?_
  refine jr.iconst rfl ?_
  refine jr.icmp_ne rfl rfl (by omega) (by omega) (fun h13 => ?_) (fun h13 => ?_)
  · refine jr.bipush rfl (by decide) ?_
    refine jr.iadd rfl ?_
    refine jr.istore_n rfl (by decide) rfl ?_
    refine jr.aload_n rfl rfl ?_
    obtain ⟨v5, e5⟩ : ∃ z_, M t 7 = z_ := ⟨_, rfl⟩
    have b5 : 0 ≤ v5 ∧ v5 ≤ 597 := by rw [← e5]; exact (CI.r hC_M k_t (by decide) 7)
    have k6 : kd (v5).toNat = 33 := ((congrArg (fun z : Int => kd z.toNat) (show M t 7 = v5 from e5)).symm.trans (CI.x hC_M k_t 7 rfl (by decide)))
    refine jr.getf (i := 7) (x := v5) (v := .ref (v5.toNat)) rfl rfl (Nat.lt_trans (kx_18 k_t).1 (by decide)) (kx_18 k_t).2 (by decide) rfl rfl e5 (jval_mut rfl (kn_18_7 k_t)) ?_
    have k7 := kf_33_0 k6
    refine jr.getf (i := 0) (v := .ref ((v5.toNat) + 1)) rfl rfl (Nat.lt_trans (kx_33 k6).1 (by decide)) (kx_33 k6).2 (by decide) rfl rfl rfl (jval_ref rfl k7.1) ?_
    refine jr.iload_n rfl rfl ?_
    refine jr.iload_n rfl rfl ?_
    refine jr.aload_n rfl rfl ?_
    have k8 := kf_18_0 k_t
    refine jr.getf (i := 0) (v := .ref (t + 1)) rfl rfl (Nat.lt_trans (kx_18 k_t).1 (by decide)) (kx_18 k_t).2 (by decide) rfl rfl rfl (jval_ref rfl k8.1) ?_
    refine jr.iload_n rfl rfl ?_
    refine jr.iald (i := x) (x := v4) rfl (Nat.lt_trans (kx_19 k8.2).1 (by decide)) (kx_19 k8.2).2 (by decide) (by omega) (by omega) e4 ?_
    refine jr.iconst rfl ?_
    refine jr.icmp_ne rfl rfl (by omega) (by omega) (fun h41 => ?_) (fun h41 => ?_)
    · refine jr.bipush rfl (by decide) ?_
      refine jr.iadd rfl ?_
      refine jr_s rfl rfl (Or.inr rfl) ⟨Nat.le_of_ble_eq_true rfl, Nat.le_of_ble_eq_true rfl⟩ rfl rfl (jc.deep (c_PacketWall_addedTwos_pw hC_M k7.2 (by omega) (by omega) (by omega) (by have hq := p0.1; rw [e5] at hq; exact hq) (fun r9 z9 w9_0 => ?_)) (by decide))
      exact jr.lreturn rfl rfl (q _ (by omega) (by unfold aD; rw [← hr1, ← hr2, e4, e2]; first | (rw [if_pos (by omega), if_pos (by omega), w9_0, show v2 + 12 + 8 - (v2 + 12) = 8 from by omega]; rfl) | (rw [if_neg (by omega), if_neg (by omega), w9_0, show v2 + 8 + 16 - (v2 + 8) = 16 from by omega]; rfl) | (exfalso; omega)))
    · refine jr.bipush rfl (by decide) ?_
      refine jr.goto rfl rfl ?_
      refine jr.iadd rfl ?_
      refine jr_s rfl rfl (Or.inr rfl) ⟨Nat.le_of_ble_eq_true rfl, Nat.le_of_ble_eq_true rfl⟩ rfl rfl (jc.deep (c_PacketWall_addedTwos_pw hC_M k7.2 (by omega) (by omega) (by omega) (by have hq := p0.1; rw [e5] at hq; exact hq) (fun r10 z10 w10_0 => ?_)) (by decide))
      exact jr.lreturn rfl rfl (q _ (by omega) (by unfold aD; rw [← hr1, ← hr2, e4, e2]; first | (rw [if_pos (by omega), if_pos (by omega), w10_0, show v2 + 12 + 8 - (v2 + 12) = 8 from by omega]; rfl) | (rw [if_neg (by omega), if_neg (by omega), w10_0, show v2 + 8 + 16 - (v2 + 8) = 16 from by omega]; rfl) | (exfalso; omega)))
  · refine jr.bipush rfl (by decide) ?_
    refine jr.goto rfl rfl ?_
    refine jr.iadd rfl ?_
    refine jr.istore_n rfl (by decide) rfl ?_
    refine jr.aload_n rfl rfl ?_
    obtain ⟨v11, e11⟩ : ∃ z_, M t 7 = z_ := ⟨_, rfl⟩
    have b11 : 0 ≤ v11 ∧ v11 ≤ 597 := by rw [← e11]; exact (CI.r hC_M k_t (by decide) 7)
    have k12 : kd (v11).toNat = 33 := ((congrArg (fun z : Int => kd z.toNat) (show M t 7 = v11 from e11)).symm.trans (CI.x hC_M k_t 7 rfl (by decide)))
    refine jr.getf (i := 7) (x := v11) (v := .ref (v11.toNat)) rfl rfl (Nat.lt_trans (kx_18 k_t).1 (by decide)) (kx_18 k_t).2 (by decide) rfl rfl e11 (jval_mut rfl (kn_18_7 k_t)) ?_
    have k13 := kf_33_0 k12
    refine jr.getf (i := 0) (v := .ref ((v11.toNat) + 1)) rfl rfl (Nat.lt_trans (kx_33 k12).1 (by decide)) (kx_33 k12).2 (by decide) rfl rfl rfl (jval_ref rfl k13.1) ?_
    refine jr.iload_n rfl rfl ?_
    refine jr.iload_n rfl rfl ?_
    refine jr.aload_n rfl rfl ?_
    have k14 := kf_18_0 k_t
    refine jr.getf (i := 0) (v := .ref (t + 1)) rfl rfl (Nat.lt_trans (kx_18 k_t).1 (by decide)) (kx_18 k_t).2 (by decide) rfl rfl rfl (jval_ref rfl k14.1) ?_
    refine jr.iload_n rfl rfl ?_
    refine jr.iald (i := x) (x := v4) rfl (Nat.lt_trans (kx_19 k14.2).1 (by decide)) (kx_19 k14.2).2 (by decide) (by omega) (by omega) e4 ?_
    refine jr.iconst rfl ?_
    refine jr.icmp_ne rfl rfl (by omega) (by omega) (fun h41 => ?_) (fun h41 => ?_)
    · exact absurd h41 (by omega)
    · refine jr.bipush rfl (by decide) ?_
      refine jr.goto rfl rfl ?_
      refine jr.iadd rfl ?_
      refine jr_s rfl rfl (Or.inr rfl) ⟨Nat.le_of_ble_eq_true rfl, Nat.le_of_ble_eq_true rfl⟩ rfl rfl (jc.deep (c_PacketWall_addedTwos_pw hC_M k13.2 (by omega) (by omega) (by omega) (by have hq := p0.1; rw [e11] at hq; exact hq) (fun r15 z15 w15_0 => ?_)) (by decide))
      exact jr.lreturn rfl rfl (q _ (by omega) (by unfold aD; rw [← hr1, ← hr2, e4, e2]; first | (rw [if_pos (by omega), if_pos (by omega), w15_0, show v2 + 12 + 8 - (v2 + 12) = 8 from by omega]; rfl) | (rw [if_neg (by omega), if_neg (by omega), w15_0, show v2 + 8 + 16 - (v2 + 8) = 16 from by omega]; rfl) | (exfalso; omega)))
theorem ds_f {M : jm} {t : Nat} {f f1 : Int → Int} {N C x k : Int} (h : HS2 M t f f1 N) (hC : M t 3 = C) (hk : k = kA f N C x) (h4 : k = 2 ∨ (7 ≤ k ∧ k ≤ 9)) : (0 ≤ x ∧ x < C) ∧ hX f N x = k ∧ M (t + 2) x = hY f N x ∧ M (t + 3) x = hZ f N x ∧ (0 ≤ N ∧ N ≤ 400) ∧ hY f N x + 8 ≤ N ∧ (k ≠ 8 ∨ hY f N x + 20 ≤ N) ∧ (k ≠ 2 ∨ (20 ≤ hZ f N x ∧ hY f N x + hZ f N x ≤ N)) := by
  have hx : 0 ≤ x ∧ x < C := by
    unfold kA at hk
    split at hk <;> omega
  rw [kA_i hx] at hk
  have hr := h.2.2.2.1.2.1 x hx.1 (by omega)
  have hl := hok_l hr.1 h.2.2.2.2 h.2.2.1.2
  rw [← hk] at hl
  have lk := lst_k k
  refine ⟨hx, hk.symm, hr.2.2.1, hr.2.2.2, h.2.2.1, ?_, ?_, ?_⟩
  · rcases h4 with q | q
    · have := lk.1 q; omega
    · rcases (show k = 7 ∨ k = 8 ∨ k = 9 by omega) with q | q | q
      · have := lk.2.2.2.2.2.2.2 (by omega); omega
      · have := lk.2.1 q; omega
      · have := lk.2.2.2.2.2.2.2 (by omega); omega
  · by_cases q : k = 8
    · have := lk.2.1 q; right; omega
    · exact Or.inl q
  · by_cases q : k = 2
    · right; omega
    · exact Or.inl q
theorem dS0_e {f f1 : Int → Int} {N x k Y un : Int} (hk : hX f N x = k) (hy : hY f N x = Y) (hu : (k = 2 ∧ un = Y + hZ f N x) ∨ (k ≠ 2 ∧ un = N)) (h4 : k = 2 ∨ (7 ≤ k ∧ k ≤ 9)) (h0 : 0 ≤ Y) (h8 : Y + 8 ≤ un ∧ un ≤ 400) (h20 : k = 7 ∨ k = 9 ∨ Y + 20 ≤ un) (hf : ∀ i : Int, 0 ≤ i → i < 400 → 0 ≤ f1 i ∧ f1 i ≤ 255) : dS0 f f1 N x = sb f1 Y (un - Y).toNat - tw f1 (Y + sof k) ∧ (0 ≤ dS0 f f1 N x ∧ dS0 f f1 N x ≤ 26112000) ∧ Y + sof k + 1 < un ∧ 0 ≤ sof k ∧ sof k % 2 = 0 := by
  have so := sof_r k
  have s1 : 0 ≤ sof k ∧ sof k % 2 = 0 ∧ Y + sof k + 1 < un := by
    rcases h4 with q | q
    · omega
    · rcases (show k = 7 ∨ k = 8 ∨ k = 9 by omega) with q | q | q <;> omega
  have e : dS0 f f1 N x = sb (fz f1 (Y + sof k)) Y (un - Y).toNat := by
    unfold dS0
    rw [hk, hy]
    rcases hu with ⟨q1, q2⟩ | ⟨q1, q2⟩
    · rw [if_pos q1, q2]
    · rw [if_neg q1, q2]
  rw [e]
  have r := sb_r (f := fz f1 (Y + sof k)) (a := Y) (un - Y).toNat (fun i g0 g1 => by
    have hz := hf i (by omega) (by omega)
    unfold fz
    split <;> omega)
  refine ⟨(sb_zt (by omega) (by omega) (by omega)).symm, ⟨r.1, ?_⟩, s1.2.2, s1.1, s1.2.1⟩
  have : ((un - Y).toNat : Int) ≤ 400 := by omega
  omega
theorem nxD_p {f : Int → Int} {N C x n : Int} (hx : 0 ≤ x ∧ x < C) (hn : n = nxD f N x.toNat) (h1 : n ≠ -1) : (0 ≤ n ∧ n < C) ∧ (hX f N n = 2 ∨ hX f N n = 3) := by
  have q := nxD_r f N x.toNat
  rw [← hn] at q
  rcases q with q | q
  · exact absurd q h1
  · exact ⟨⟨q.1, by omega⟩, q.2.2⟩
theorem c_Headers_kindAt_y {A : Nat → Option (Nat × (Nat → Int32))} {Q : Option Value → jm → Prop} {f f1 : Int → Int} {N : Int} {M : jm} (hC_M : CI M) {t : Nat} (k_t : kd t = 18) {x : Int} (h_x : (-2147483648) ≤ x ∧ x ≤ 2147483647) {C : Int} (g_C : M t 3 = C) (p0 : HS2 M t f f1 N) (q : ∀ (r : Int), (-1) ≤ r ∧ r ≤ 11 → (r = kA f N C x) → Q (some (.int (Int32.ofInt r))) M) : jc A 1 107 [.ref (t), .int (Int32.ofInt (x))] M Q := by
  refine jc_of (m := xm_107) rfl (Nat.le_of_ble_eq_true rfl) rfl ?_
  have b_C : 0 ≤ C ∧ C ≤ 12 := by rw [← g_C]; exact (CI.r hC_M k_t (by decide) 3)
  refine jr.iload_n rfl rfl ?_
  refine jr.if_lt rfl rfl (by omega) (fun h1 => ?_) (fun h1 => ?_)
  · refine jr.iconst rfl ?_
    exact jr.ireturn rfl rfl rfl (q _ (by omega) (by unfold kA; first | (rw [if_neg (by omega)]) | (have hr := p0.2.2.2.1.2.1 x (by omega) (by omega); rw [if_pos (by omega)]; omega)))
  · refine jr.iload_n rfl rfl ?_
    refine jr.aload_n rfl rfl ?_
    refine jr.getf (i := 3) (x := C) (v := .int (Int32.ofInt (C))) rfl rfl (Nat.lt_trans (kx_18 k_t).1 (by decide)) (kx_18 k_t).2 (by decide) rfl rfl g_C rfl ?_
    refine jr.icmp_ge rfl rfl (by omega) (by omega) (fun h9 => ?_) (fun h9 => ?_)
    · refine jr.iconst rfl ?_
      exact jr.ireturn rfl rfl rfl (q _ (by omega) (by unfold kA; first | (rw [if_neg (by omega)]) | (have hr := p0.2.2.2.1.2.1 x (by omega) (by omega); rw [if_pos (by omega)]; omega)))
    · refine jr.aload_n rfl rfl ?_
      have k1 := kf_18_0 k_t
      refine jr.getf (i := 0) (v := .ref (t + 1)) rfl rfl (Nat.lt_trans (kx_18 k_t).1 (by decide)) (kx_18 k_t).2 (by decide) rfl rfl rfl (jval_ref rfl k1.1) ?_
      refine jr.iload_n rfl rfl ?_
      obtain ⟨v2, e2⟩ : ∃ z_, M ((t + 1)) x = z_ := ⟨_, rfl⟩
      have b2 : 0 ≤ v2 ∧ v2 ≤ 11 := by rw [← e2]; exact (CI.r hC_M k1.2 (by decide) x)
      refine jr.iald (i := x) (x := v2) rfl (Nat.lt_trans (kx_19 k1.2).1 (by decide)) (kx_19 k1.2).2 (by decide) (by omega) (by omega) e2 ?_
      refine jr.goto rfl rfl ?_
      exact jr.ireturn rfl rfl rfl (q _ (by omega) (by unfold kA; first | (rw [if_neg (by omega)]) | (have hr := p0.2.2.2.1.2.1 x (by omega) (by omega); rw [if_pos (by omega)]; omega)))
end
