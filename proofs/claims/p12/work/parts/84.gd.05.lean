section
/-! ===== the class: a packet is put together ===== -/
noncomputable def hlf (K L : Int) : Int := if K = 6 then L - 8 else L
noncomputable def mk0 (kp rw f : Int → Int) (A W : Int) : Int → Int := fun k => if 0 ≤ k ∧ k < A then kp k else if A ≤ k ∧ k < A + W then rw (k - A) else f k
noncomputable def mk2 (g : Int → Int) (nt ln : Int) : Int → Int := ptn (ptn g (nt + 2) 2 (ln - nt)) (nt + 6) 2 0
noncomputable def mkF (g : Int → Int) (K A W nt nx nv : Int) : Int → Int := if K = 2 then ptn (mk2 g nt (A + W)) (nt + 10) 2 (tn (sb (fz (mk2 g nt (A + W)) (nt + 10)) nt (A - nt).toNat)) else ptn (ptn g nx 1 nv) (nt + 2) 2 (A + W - nt - 24)
theorem ptn_2 (f : Int → Int) (y v w : Int) : ptn (ptn f y 2 v) y 2 w = ptn f y 2 w := by
  funext k
  unfold ptn
  by_cases q : y ≤ k ∧ k < y + 2
  · rw [if_pos q, if_pos q]
  · rw [if_neg q, if_neg q, if_neg q]
theorem sb_p0 {f : Int → Int} {y a : Int} (n : Nat) : sb (ptn f y 2 0) a n = sb (fz f y) a n := sb_e n (fun i _ _ => by
  unfold ptn fz
  by_cases q : y ≤ i ∧ i < y + 2
  · rw [if_pos q, if_pos (by omega)]
    unfold bt
    (repeat' split) <;> omega
  · rw [if_neg q, if_neg (by omega)])
/-- rows from which a packet is put together -/
noncomputable def MKP (M : jm) (t : Nat) (kp rw : Int → Int) (A W : Int) : Prop := (∀ k : Int, 0 ≤ k → k < A → M (t + 2) k = kp k ∧ 0 ≤ kp k ∧ kp k ≤ 255) ∧ ∀ k : Int, 0 ≤ k → k < W → M (t + 1) k = rw k ∧ 0 ≤ rw k ∧ rw k ≤ 255
theorem mk0_b {M1 M2 M : jm} {t c : Nat} {kp rw f : Int → Int} {A W : Int} (h : MKP M t kp rw A W) (hb : BY8 M c f) (hA : 0 ≤ A ∧ 0 ≤ W ∧ A + W ≤ 400) (c1 : t + 2 ≠ c) (c2 : t + 1 ≠ c) (e1 : ∀ (b : Nat) (k : Int), M1 b k = if b = c ∧ 0 ≤ k ∧ k < 0 + A then M (t + 2) (0 + (k - 0)) else M b k) (e2 : ∀ (b : Nat) (k : Int), M2 b k = if b = c ∧ A ≤ k ∧ k < A + W then M1 (t + 1) (0 + (k - A)) else M1 b k) : BY8 M2 c (mk0 kp rw f A W) := by
  intro i h0 h1
  rw [e2]
  unfold mk0
  by_cases q : A ≤ i ∧ i < A + W
  · rw [if_pos ⟨rfl, q⟩, if_neg (by omega), if_pos q, e1, if_neg (by intro h; exact c2 h.1), show 0 + (i - A) = i - A by omega]
    exact h.2 (i - A) (by omega) (by omega)
  · rw [if_neg (by intro h; exact q h.2), e1]
    by_cases q2 : 0 ≤ i ∧ i < A
    · rw [if_pos ⟨rfl, by omega⟩, if_pos q2, show 0 + (i - 0) = i by omega]
      exact h.1 i q2.1 q2.2
    · rw [if_neg (by intro h; exact q2 ⟨h.2.1, by omega⟩), if_neg q2, if_neg q]
      exact hb i h0 h1
theorem c_Gathering_headersLength_x {A : Nat → Option (Nat × (Nat → Int32))} {Q : Option Value → jm → Prop} {M : jm} (hC_M : CI M) {t : Nat} (k_t : kd t = 15) {K : Int} (g_K : M t 1 = K) {L : Int} (g_L : M t 11 = L) (q : ∀ (r : Int), (-9) ≤ r ∧ r ≤ 400 → (r = hlf K L) → Q (some (.int (Int32.ofInt r))) M) : jc A 1 101 [.ref (t)] M Q := by
  refine jc_of (m := xm_101) rfl (Nat.le_of_ble_eq_true rfl) rfl ?_
  have b_K : (-2147483648) ≤ K ∧ K ≤ 2147483647 := by rw [← g_K]; exact (CI.r hC_M k_t (by decide) 1)
  have b_L : (-1) ≤ L ∧ L ≤ 400 := by rw [← g_L]; exact (CI.r hC_M k_t (by decide) 11)
  refine jr.aload_n rfl rfl ?_
  refine jr.getf (i := 1) (x := K) (v := .int (Int32.ofInt (K))) rfl rfl (Nat.lt_trans (kx_15 k_t).1 (by decide)) (kx_15 k_t).2 (by decide) rfl rfl g_K rfl ?_
  refine jr.bipush rfl (by decide) ?_
  refine jr.icmp_ne rfl rfl (by omega) (by omega) (fun h6 => ?_) (fun h6 => ?_)
  · refine jr.aload_n rfl rfl ?_
    refine jr.getf (i := 11) (x := L) (v := .int (Int32.ofInt (L))) rfl rfl (Nat.lt_trans (kx_15 k_t).1 (by decide)) (kx_15 k_t).2 (by decide) rfl rfl g_L rfl ?_
    exact jr.ireturn rfl rfl rfl (q _ (by omega) (by unfold hlf; (repeat' split) <;> omega))
  · refine jr.aload_n rfl rfl ?_
    refine jr.getf (i := 11) (x := L) (v := .int (Int32.ofInt (L))) rfl rfl (Nat.lt_trans (kx_15 k_t).1 (by decide)) (kx_15 k_t).2 (by decide) rfl rfl g_L rfl ?_
    refine jr.bipush rfl (by decide) ?_
    refine jr.isub rfl ?_
    refine jr.goto rfl rfl ?_
    exact jr.ireturn rfl rfl rfl (q _ (by omega) (by unfold hlf; (repeat' split) <;> omega))
theorem c_Gathering_packetLength_x {A : Nat → Option (Nat × (Nat → Int32))} {Q : Option Value → jm → Prop} {M : jm} (hC_M : CI M) {t : Nat} (k_t : kd t = 15) {K : Int} (g_K : M t 1 = K) {L : Int} (g_L : M t 11 = L) {W : Int} (g_W : M t 7 = W) (q : ∀ (r : Int), (-10) ≤ r ∧ r ≤ 70400 → (r = hlf K L + W) → Q (some (.int (Int32.ofInt r))) M) : jc A 2 98 [.ref (t)] M Q := by
  refine jc_of (m := xm_98) rfl (Nat.le_of_ble_eq_true rfl) rfl ?_
  have b_K : (-2147483648) ≤ K ∧ K ≤ 2147483647 := by rw [← g_K]; exact (CI.r hC_M k_t (by decide) 1)
  have b_L : (-1) ≤ L ∧ L ≤ 400 := by rw [← g_L]; exact (CI.r hC_M k_t (by decide) 11)
  have b_W : (-1) ≤ W ∧ W ≤ 70000 := by rw [← g_W]; exact (CI.r hC_M k_t (by decide) 7)
  refine jr.aload_n rfl rfl ?_
  refine jr_v rfl rfl (Or.inl rfl) rfl rfl (Nat.lt_trans (kx_15 k_t).1 (by decide)) (kx_15 k_t).2 ⟨rfl, Nat.le_of_ble_eq_true rfl, Nat.le_of_ble_eq_true rfl⟩ rfl (jc.deep (c_Gathering_headersLength_x hC_M k_t g_K g_L (fun r1 z1 w1_0 => ?_)) (by decide))
  refine jr.aload_n rfl rfl ?_
  refine jr.getf (i := 7) (x := W) (v := .int (Int32.ofInt (W))) rfl rfl (Nat.lt_trans (kx_15 k_t).1 (by decide)) (kx_15 k_t).2 (by decide) rfl rfl g_W rfl ?_
  refine jr.iadd rfl ?_
  exact jr.ireturn rfl rfl rfl (q _ (by omega) (by omega))
theorem mkF_2 {g : Int → Int} {K A W nt nx nv l a s v : Int} (hK : K = 2) (hl : l = A + W) (ha : a = A) (hs : s = sb (ptn (ptn (ptn g (nt + 2) 2 (l - nt)) (nt + 6) 2 0) (nt + 10) 2 0) nt (a - nt).toNat) (hv : v = tn s) : ptn (ptn (ptn (ptn g (nt + 2) 2 (l - nt)) (nt + 6) 2 0) (nt + 10) 2 0) (nt + 10) 2 v = mkF g K A W nt nx nv := by
  subst hl
  subst ha
  unfold mkF
  rw [if_pos hK, ptn_2, hv, hs, sb_p0]
  rfl
theorem mkF_6 {g : Int → Int} {K A W nt nx nv l : Int} (hK : K ≠ 2) (hl : l = A + W) : ptn (ptn g nx 1 nv) (nt + 2) 2 (l - nt - 24) = mkF g K A W nt nx nv := by
  subst hl
  unfold mkF
  rw [if_neg hK]
theorem lpf_w {w : Int} (h : 0 ≤ w ∧ w ≤ 360) : lpf w = w := by
  unfold lpf
  rw [if_neg (by omega), if_pos h.2]
/-- what makePacket leaves behind -/
noncomputable def MKD (T M : jm) (x : Nat) (h : Int → Int) (ln : Int) : Prop := BY8 M (x + 1) h ∧ M x 1 = ln ∧ M x 2 = 0 ∧ ∀ (b : Nat) (k : Int), b ≠ x → b ≠ x + 1 → M b k = T b k
noncomputable def W_c_Gathering_makePacket_x : List (Nat × Nat) := [(33, 1), (33, 2), (34, 1000)]
end
