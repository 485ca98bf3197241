section
/-! ===== the class: mend ===== -/
theorem dS_in {f f1 : Int → Int} {N C x d : Int} (hd : d = dS f f1 N C x) : d = -1 ∨ ((0 ≤ x ∧ x < C) ∧ (kA f N C x = 2 ∨ (7 ≤ kA f N C x ∧ kA f N C x ≤ 9))) := by
  by_cases q : kA f N C x = 2 ∨ (7 ≤ kA f N C x ∧ kA f N C x ≤ 9)
  · refine Or.inr ⟨?_, q⟩
    unfold kA at q
    split at q
    · assumption
    · omega
  · left
    rw [hd]
    unfold dS
    rw [if_neg (by omega), if_neg (by omega)]
/-- bytes with a number of n bytes laid at y -/
noncomputable def ptn (f : Int → Int) (y n v : Int) : Int → Int := fun k => if y ≤ k ∧ k < y + n then bt v (y + n - 1 - k) else f k
theorem PN.by8 {T M : jm} {c : Nat} {f : Int → Int} {y n v : Int} (h : PN T M c y n v n 400) (hb : BY8 T c f) : BY8 M c (ptn f y n v) := fun i h0 h1 => by
  rw [h.1 i]
  unfold pnf ptn
  by_cases q : y ≤ i ∧ i < y + n
  · rw [if_pos (by omega), if_pos q, show y + n - 1 - i = y + n - 1 - i from rfl]
    exact ⟨rfl, bt_r _ _⟩
  · rw [if_neg (by omega), if_neg q]
    exact hb i h0 h1
noncomputable def mdt (f f1 : Int → Int) (N C x : Int) : Int := hY f N x + sof (hX f N x)
/-- bytes behind mend(x) -/
noncomputable def mdF (f : Int → Int) (N C x : Int) (f1 : Int → Int) : Int → Int := if dS f f1 N C x = -1 then f1 else ptn f1 (hY f N x + sof (hX f N x)) 2 (dS f f1 N C x)
noncomputable def mdR (f : Int → Int) (N C x : Int) (f1 : Int → Int) : Int := if dS f f1 N C x = -1 then 0 else if tw f1 (hY f N x + sof (hX f N x)) = dS f f1 N C x then 0 else 1
/-- one row has changed, the rest is as it was -/
noncomputable def OR1 (T M : jm) (c : Nat) : Prop := ∀ (b : Nat) (k : Int), b ≠ c → M b k = T b k
theorem byM {M : jm} {t : Nat} {f f1 : Int → Int} {N S : Int} (h : HS2 M t f f1 N) (hS : M t 7 = S) : BY8 M (S.toNat + 1) f1 := by
  have q := h.1
  rw [hS] at q
  exact q
noncomputable def W_c_Headers_mend_x : List (Nat × Nat) := [(34, 1000)]
theorem c_Headers_mend_x {A : Nat → Option (Nat × (Nat → Int32))} {Q : Option Value → jm → Prop} {f f1 : Int → Int} {N : Int} {T : jm} {M : jm} (hC_M : CI M) (ht_M : FR W_c_Headers_mend_x T M) {t : Nat} (k_t : kd t = 18) {x : Int} (h_x : (-2147483648) ≤ x ∧ x ≤ 2147483647) {C : Int} (g_C : M t 3 = C) {S : Int} (g_S : M t 7 = S) (p0 : T = M) (p1 : HS2 M t f f1 N) (q : ∀ (r : Int) (M' : jm), CI M' → FR W_c_Headers_mend_x T M' → 0 ≤ r ∧ r ≤ 1 → (r = mdR f N C x f1 ∧ BY8 M' (S.toNat + 1) (mdF f N C x f1) ∧ OR1 T M' (S.toNat + 1)) → Q (some (.int (Int32.ofInt r))) M') : jc A 5 121 [.ref (t), .int (Int32.ofInt (x))] M Q := by
  refine jc_of (m := xm_121) rfl (Nat.le_of_ble_eq_true rfl) rfl ?_
  have b_C : 0 ≤ C ∧ C ≤ 12 := by rw [← g_C]; exact (CI.r hC_M k_t (by decide) 3)
  have k_S : kd S.toNat = 33 := (congrArg (fun z : Int => kd z.toNat) g_S).symm.trans (CI.x hC_M k_t 7 rfl (by decide))
  refine jr.aload_n rfl rfl ?_
  refine jr.iload_n rfl rfl ?_
  refine jr_v rfl rfl (Or.inl rfl) rfl rfl (Nat.lt_trans (kx_18 k_t).1 (by decide)) (kx_18 k_t).2 ⟨rfl, Nat.le_of_ble_eq_true rfl, Nat.le_of_ble_eq_true rfl⟩ rfl (jc.deep (c_Headers_dueSum_x hC_M k_t (by omega) g_C p1 (fun r1 z1 w1_0 => ?_)) (by decide))
  have hds := dS_in (d := r1) w1_0
  refine jr.istore_n (ls' := [_, _, _]) rfl (by decide) rfl ?_
  refine jr.iload_n rfl rfl ?_
  refine jr.iconst rfl ?_
  refine jr.icmp_ne rfl rfl (by omega) (by omega) (fun h8 => ?_) (fun h8 => ?_)
  · refine jr.aload_n rfl rfl ?_
    have k2 := kf_18_1 k_t
    refine jr.getf (i := 1) (v := .ref (t + 2)) rfl rfl (Nat.lt_trans (kx_18 k_t).1 (by decide)) (kx_18 k_t).2 (by decide) rfl rfl rfl (jval_ref rfl k2.1) ?_
    refine jr.iload_n rfl rfl ?_
    obtain ⟨v3, e3⟩ : ∃ z_, M ((t + 2)) x = z_ := ⟨_, rfl⟩
    have b3 : 0 ≤ v3 ∧ v3 ≤ 400 := by rw [← e3]; exact (CI.r hC_M k2.2 (by decide) x)
    refine jr.iald (i := x) (x := v3) rfl (Nat.lt_trans (kx_20 k2.2).1 (by decide)) (kx_20 k2.2).2 (by decide) (by omega) (by omega) e3 ?_
    obtain ⟨hx0, hkx, hyx, hzx, hN4, hA8, hA20, hA2⟩ := ds_f p1 g_C rfl (show kA f N C x = 2 ∨ (7 ≤ kA f N C x ∧ kA f N C x ≤ 9) from (hds.resolve_left (by omega)).2)
    have hr1 := (p1.2.2.2.1.2.1 x hx0.1 (by omega)).2.1
    have so := sof_r (hX f N x)
    refine jr.aload_n rfl rfl ?_
    have k4 := kf_18_0 k_t
    refine jr.getf (i := 0) (v := .ref (t + 1)) rfl rfl (Nat.lt_trans (kx_18 k_t).1 (by decide)) (kx_18 k_t).2 (by decide) rfl rfl rfl (jval_ref rfl k4.1) ?_
    refine jr.iload_n rfl rfl ?_
    obtain ⟨v5, e5⟩ : ∃ z_, M ((t + 1)) x = z_ := ⟨_, rfl⟩
    have b5 : 0 ≤ v5 ∧ v5 ≤ 11 := by rw [← e5]; exact (CI.r hC_M k4.2 (by decide) x)
    refine jr.iald (i := x) (x := v5) rfl (Nat.lt_trans (kx_19 k4.2).1 (by decide)) (kx_19 k4.2).2 (by decide) (by omega) (by omega) e5 ?_
    refine jr_s rfl rfl (Or.inl rfl) ⟨Nat.le_of_ble_eq_true rfl, Nat.le_of_ble_eq_true rfl⟩ rfl rfl (jc.deep (c_Headers_sumOffset_x hC_M (by omega) (fun r6 z6 w6_0 => ?_)) (by decide))
    have hs5 : r6 = sof (hX f N x) := (by rw [w6_0, ← e5, hr1])
    refine jr.iadd rfl ?_
    refine jr.istore_n (ls' := [_, _, _, _]) rfl (by decide) rfl ?_
    refine jr.aload_n rfl rfl ?_
    refine jr.getf (i := 7) (x := S) (v := .ref (S.toNat)) rfl rfl (Nat.lt_trans (kx_18 k_t).1 (by decide)) (kx_18 k_t).2 (by decide) rfl rfl g_S (jval_mut rfl (kn_18_7 k_t)) ?_
    refine jr.iload_n rfl rfl ?_
    refine jr.iconst rfl ?_
    refine jr_v rfl rfl (Or.inl rfl) rfl rfl (Nat.lt_trans (kx_33 k_S).1 (by decide)) (kx_33 k_S).2 ⟨rfl, Nat.le_of_ble_eq_true rfl, Nat.le_of_ble_eq_true rfl⟩ rfl (jc.deep (c_Packet_numberFrom_h hC_M k_S (by omega) (by have hq := p1.1; rw [g_S] at hq; exact hq) (fun r8 z8 w8_0 => ?_)) (by decide))
    refine jr.lstore (ls' := [_, _, _, _, _]) rfl (by decide) rfl ?_
    refine jr.aload_n rfl rfl ?_
    refine jr.getf (i := 7) (x := S) (v := .ref (S.toNat)) rfl rfl (Nat.lt_trans (kx_18 k_t).1 (by decide)) (kx_18 k_t).2 (by decide) rfl rfl g_S (jval_mut rfl (kn_18_7 k_t)) ?_
    have k10 := kf_33_0 k_S
    refine jr.getf (i := 0) (v := .ref ((S.toNat) + 1)) rfl rfl (Nat.lt_trans (kx_33 k_S).1 (by decide)) (kx_33 k_S).2 (by decide) rfl rfl rfl (jval_ref rfl k10.1) ?_
    refine jr.iload_n rfl rfl ?_
    refine jr.iconst rfl ?_
    refine jr.iload_n rfl rfl ?_
    refine jr.i2l rfl (by omega) ?_
    refine jr_s rfl rfl (Or.inr rfl) ⟨Nat.le_of_ble_eq_true rfl, Nat.le_of_ble_eq_true rfl⟩ rfl rfl (jc.deep (c_PacketWall_putNumber_pf hC_M (FR.rfl _ M) k10.2 (by omega) (by omega) (by omega) rfl (fun M11 hC_M11 hf_M11 w11_0 => ?_)) (by decide))
    have ht_M11 : FR W_c_Headers_mend_x T M11 := FR.t ht_M hf_M11 (kw_sub rfl)
    refine jr.lload rfl rfl ?_
    refine jr.iload_n rfl rfl ?_
    refine jr.i2l rfl (by omega) ?_
    refine jr.lcmp_eq rfl rfl rfl (by omega) (by omega) (fun h59 => ?_) (fun h59 => ?_)
    · refine jr.iconst rfl ?_
      exact jr.ireturn rfl rfl rfl (q _ _ hC_M11 ht_M11 (by omega) (by have hat : hY f N x + sof (hX f N x) = v3 + r6 := (by rw [w6_0, ← hr1, e5]; omega); have hne : ¬ r1 = -1 := (by omega); have e1 : mdR f N C x f1 = (if tw f1 (v3 + r6) = r1 then 0 else 1) := (by unfold mdR; rw [← w1_0, if_neg hne, hat]); have e2 : mdF f N C x f1 = ptn f1 (v3 + r6) 2 r1 := (by unfold mdF; rw [← w1_0, if_neg hne, hat]); rw [e1, e2, ← w8_0.1]; refine ⟨?_, PN.by8 w11_0 (byM p1 g_S), fun b k hb => by rw [w11_0.2 b k hb, p0]⟩; first | (rw [if_pos (by omega)]) | (rw [if_neg (by omega)])))
    · refine jr.iconst rfl ?_
      refine jr.goto rfl rfl ?_
      exact jr.ireturn rfl rfl rfl (q _ _ hC_M11 ht_M11 (by omega) (by have hat : hY f N x + sof (hX f N x) = v3 + r6 := (by rw [w6_0, ← hr1, e5]; omega); have hne : ¬ r1 = -1 := (by omega); have e1 : mdR f N C x f1 = (if tw f1 (v3 + r6) = r1 then 0 else 1) := (by unfold mdR; rw [← w1_0, if_neg hne, hat]); have e2 : mdF f N C x f1 = ptn f1 (v3 + r6) 2 r1 := (by unfold mdF; rw [← w1_0, if_neg hne, hat]); rw [e1, e2, ← w8_0.1]; refine ⟨?_, PN.by8 w11_0 (byM p1 g_S), fun b k hb => by rw [w11_0.2 b k hb, p0]⟩; first | (rw [if_pos (by omega)]) | (rw [if_neg (by omega)])))
  · refine jr.iconst rfl ?_
    exact jr.ireturn rfl rfl rfl (q _ _ hC_M ht_M (by omega) (by unfold mdR mdF; rw [← w1_0, if_pos (by omega), if_pos (by omega)]; exact ⟨rfl, byM p1 g_S, fun _ _ _ => by rw [p0]⟩))
end

