section
theorem BGE.e {T M M2 : jm} {t : Nat} {v : Int} (h : BGE T M t 2) (hv : v = (if M t 2 = 6 then 1 else 0)) (w : FGT (ju (ju (ju M t 5 v) t 13 (-1)) t 15 (-1)) M2 t) : BGN T M2 t := by
  obtain ⟨h1, h2, h3, h4⟩ := h
  obtain ⟨w1, w2, w3, w4⟩ := w
  refine ⟨⟨?_, ?_, ?_, ?_, ?_, ?_, w2⟩, fun s s0 s1 => ⟨?_, w1 s s0 s1⟩, ⟨?_, ?_⟩, fun b k b0 b1 b2 b3 b4 b5 b6 b7 => ?_⟩
  · rw [w3 0 (by decide), ju_i _ _ (by decide), ju_i _ _ (by decide), ju_i _ _ (by decide)]; exact h1.1
  · rw [w3 1 (by decide), ju_i _ _ (by decide), ju_i _ _ (by decide), ju_i _ _ (by decide)]; exact h1.2.1
  · rw [w3 2 (by decide), ju_i _ _ (by decide), ju_i _ _ (by decide), ju_i _ _ (by decide)]; exact h1.2.2
  · rw [w3 5 (by decide), ju_i _ _ (by decide), ju_i _ _ (by decide), ju_same, hv, h1.2.2]
  · rw [w3 13 (by decide), ju_i _ _ (by decide), ju_same]
  · rw [w3 15 (by decide), ju_same]
  · rw [w4 (t + 1) s (by omega) (by omega) (by omega) (by omega) (by omega) (by omega), w4 (t + 2) s (by omega) (by omega) (by omega) (by omega) (by omega) (by omega)]
    simp only [ju_c _ _ (show t + 1 ≠ t by omega), ju_c _ _ (show t + 2 ≠ t by omega)]
    exact h2 s s0 s1
  · rw [w3 6 (by decide), ju_i _ _ (by decide), ju_i _ _ (by decide), ju_i _ _ (by decide)]; exact h3 6 (by decide) (by decide) (by decide)
  · rw [w3 14 (by decide), ju_i _ _ (by decide), ju_i _ _ (by decide), ju_i _ _ (by decide)]; exact h3 14 (by decide) (by decide) (by decide)
  · rw [w4 b k b0 b3 b4 b5 b6 b7, ju_c _ _ b0, ju_c _ _ b0, ju_c _ _ b0]; exact h4 b k b0 b1 b2
noncomputable def W_c_Flow_beginAs_x : List (Nat × Nat) := [(1, 0), (1, 1), (1, 2), (1, 5), (1, 12), (1, 13), (1, 15), (2, 1000), (3, 1000), (4, 1000), (5, 1000), (6, 1000), (7, 1000), (8, 1000)]
theorem c_Flow_beginAs_x_L23 {A : Nat → Option (Nat × (Nat → Int32))} {Q : Option Value → jm → Prop} {T : jm} {t : Nat} (k_t : kd t = 1) (q : ∀ (M' : jm), CI M' → FR W_c_Flow_beginAs_x T M' → (BGN T M' t) → Q none M') : ∀ (nM : Nat) (M : jm) (i : Int), CI M → FR W_c_Flow_beginAs_x T M → 0 ≤ i ∧ i ≤ 2 → (BGE T M t i) → (t ≠ 18 ∧ t + 1 ≠ 20 ∧ t ≠ 19 ∧ t ≠ 20 ∧ t + 2 ≠ 19) → 2 - i ≤ nM → jr A 1 xm_58 23 [(2, .int (Int32.ofInt (i))), (0, .ref (t)), (1, .ref (18))] [] M Q := by
  intro nM
  induction nM using Nat.strongRecOn with
  | ind nM ih =>
    intro M i hC_M ht_M h_i hy0 hy1 hm
    refine jr.iload_n rfl rfl ?_
    refine jr.iconst rfl ?_
    refine jr.icmp_ge rfl rfl (by omega) (by omega) (fun h25 => ?_) (fun h25 => ?_)
    · refine jr.aload_n rfl rfl ?_
      refine jr.aload_n rfl rfl ?_
      obtain ⟨v1, e1⟩ : ∃ z_, M t 2 = z_ := ⟨_, rfl⟩
      have b1 : (-2147483648) ≤ v1 ∧ v1 ≤ 2147483647 := by rw [← e1]; exact (CI.r hC_M k_t (by decide) 2)
      refine jr.getf (i := 2) (x := v1) (v := .int (Int32.ofInt (v1))) rfl rfl (Nat.lt_trans (kx_1 k_t).1 (by decide)) (kx_1 k_t).2 (by decide) rfl rfl e1 rfl ?_
      refine jr.bipush rfl (by decide) ?_
      refine jr.icmp_ne rfl rfl (by omega) (by omega) (fun h65 => ?_) (fun h65 => ?_)
      · refine jr.iconst rfl ?_
        refine jr.putf (i := 5) (x := 0) rfl rfl (Nat.lt_trans (kx_1 k_t).1 (by decide)) (kx_1 k_t).2 (by decide) rfl rfl rfl rfl rfl ?_
        refine jr.aload_n rfl rfl ?_
        refine jr.iconst rfl ?_
        refine jr.putf (i := 13) (x := (-1)) rfl rfl (Nat.lt_trans (kx_1 k_t).1 (by decide)) (kx_1 k_t).2 (by decide) rfl rfl rfl rfl rfl ?_
        refine jr.aload_n rfl rfl ?_
        refine jr.iconst rfl ?_
        refine jr.putf (i := 15) (x := (-1)) rfl rfl (Nat.lt_trans (kx_1 k_t).1 (by decide)) (kx_1 k_t).2 (by decide) rfl rfl rfl rfl rfl ?_
        refine jr.aload_n rfl rfl ?_
        refine jr_v rfl rfl (Or.inl rfl) rfl rfl (Nat.lt_trans (kx_1 k_t).1 (by decide)) (kx_1 k_t).2 ⟨rfl, Nat.le_of_ble_eq_true rfl, Nat.le_of_ble_eq_true rfl⟩ rfl (jc.deep (c_Flow_forget_x (CI.u (CI.u (CI.u hC_M (i := 5) k_t (show (-2147483648 : Int) ≤ _ ∧ _ ≤ (2147483647 : Int) from by omega) rfl) (i := 13) k_t (show (-2147483648 : Int) ≤ _ ∧ _ ≤ (2147483647 : Int) from by omega) rfl) (i := 15) k_t (show (-2147483648 : Int) ≤ _ ∧ _ ≤ (2147483647 : Int) from by omega) rfl) (FR.rfl _ ((ju (ju (ju M t 5 0) t 13 (-1)) t 15 (-1)))) k_t rfl (fun M2 hC_M2 hf_M2 w2_0 => ?_)) (by decide))
        have ht_M2 : FR W_c_Flow_beginAs_x T M2 := FR.t (FR.o (FR.o (FR.o ht_M k_t rfl) k_t rfl) k_t rfl) hf_M2 (kw_sub rfl)
        exact jr.vreturn rfl rfl (q _ hC_M2 ht_M2  (BGE.e (by have h9 := hy0; rw [show i = 2 from by omega] at h9; exact h9) (by first | (rw [if_pos (by omega)]) | (rw [if_neg (by omega)])) w2_0))
      · refine jr.iconst rfl ?_
        refine jr.goto rfl rfl ?_
        refine jr.putf (i := 5) (x := 1) rfl rfl (Nat.lt_trans (kx_1 k_t).1 (by decide)) (kx_1 k_t).2 (by decide) rfl rfl rfl rfl rfl ?_
        refine jr.aload_n rfl rfl ?_
        refine jr.iconst rfl ?_
        refine jr.putf (i := 13) (x := (-1)) rfl rfl (Nat.lt_trans (kx_1 k_t).1 (by decide)) (kx_1 k_t).2 (by decide) rfl rfl rfl rfl rfl ?_
        refine jr.aload_n rfl rfl ?_
        refine jr.iconst rfl ?_
        refine jr.putf (i := 15) (x := (-1)) rfl rfl (Nat.lt_trans (kx_1 k_t).1 (by decide)) (kx_1 k_t).2 (by decide) rfl rfl rfl rfl rfl ?_
        refine jr.aload_n rfl rfl ?_
        refine jr_v rfl rfl (Or.inl rfl) rfl rfl (Nat.lt_trans (kx_1 k_t).1 (by decide)) (kx_1 k_t).2 ⟨rfl, Nat.le_of_ble_eq_true rfl, Nat.le_of_ble_eq_true rfl⟩ rfl (jc.deep (c_Flow_forget_x (CI.u (CI.u (CI.u hC_M (i := 5) k_t (show (-2147483648 : Int) ≤ _ ∧ _ ≤ (2147483647 : Int) from by omega) rfl) (i := 13) k_t (show (-2147483648 : Int) ≤ _ ∧ _ ≤ (2147483647 : Int) from by omega) rfl) (i := 15) k_t (show (-2147483648 : Int) ≤ _ ∧ _ ≤ (2147483647 : Int) from by omega) rfl) (FR.rfl _ ((ju (ju (ju M t 5 1) t 13 (-1)) t 15 (-1)))) k_t rfl (fun M3 hC_M3 hf_M3 w3_0 => ?_)) (by decide))
        have ht_M3 : FR W_c_Flow_beginAs_x T M3 := FR.t (FR.o (FR.o (FR.o ht_M k_t rfl) k_t rfl) k_t rfl) hf_M3 (kw_sub rfl)
        exact jr.vreturn rfl rfl (q _ hC_M3 ht_M3  (BGE.e (by have h9 := hy0; rw [show i = 2 from by omega] at h9; exact h9) (by first | (rw [if_pos (by omega)]) | (rw [if_neg (by omega)])) w3_0))
    · refine jr.aload_n rfl rfl ?_
      have k4 := kf_1_3 k_t
      refine jr.getf (i := 3) (v := .ref (t + 1)) rfl rfl (Nat.lt_trans (kx_1 k_t).1 (by decide)) (kx_1 k_t).2 (by decide) rfl rfl rfl (jval_ref rfl k4.1) ?_
      refine jr.iload_n rfl rfl ?_
      refine jr.aload_n rfl rfl ?_
      refine jr.getf (i := 3) (v := .ref 19) rfl rfl (by decide) rfl (by decide) rfl rfl rfl rfl ?_
      refine jr.iload_n rfl rfl ?_
      obtain ⟨v5, e5⟩ : ∃ z_, M 19 i = z_ := ⟨_, rfl⟩
      have b5 : (-9223372036854775808) ≤ v5 ∧ v5 ≤ 9223372036854775807 := by rw [← e5]; exact (CI.r hC_M (show kd 19 = 2 from rfl) (by decide) i)
      refine jr.lald (i := i) (x := v5) rfl (by decide) rfl (by decide) (by omega) (by omega) e5 ?_
      refine jr.last (i := i) (x := v5) rfl (Nat.lt_trans (kx_2 k4.2).1 (by decide)) (kx_2 k4.2).2 (by decide) (by omega) (by omega) ?_
      refine jr.aload_n rfl rfl ?_
      have k6 := kf_1_4 k_t
      refine jr.getf (i := 4) (v := .ref (t + 2)) rfl rfl (Nat.lt_trans (kx_1 k_t).1 (by decide)) (kx_1 k_t).2 (by decide) rfl rfl rfl (jval_ref rfl k6.1) ?_
      refine jr.iload_n rfl rfl ?_
      refine jr.aload_n rfl rfl ?_
      refine jr.getf (i := 4) (v := .ref 20) rfl rfl (by decide) rfl (by decide) rfl rfl rfl rfl ?_
      refine jr.iload_n rfl rfl ?_
      obtain ⟨v7, e7⟩ : ∃ z_, M 20 i = z_ := ⟨_, rfl⟩
      have b7 : (-2147483648) ≤ v7 ∧ v7 ≤ 2147483647 := by rw [← e7]; exact (CI.r hC_M (show kd 20 = 7 from rfl) (by decide) i)
      refine jr.iald (i := i) (x := v7) rfl (by decide) rfl (by decide) (by omega) (by omega) ((ju_c _ _ (kd_ne (by rw [(show kd 20 = 7 from rfl), k4.2]; decide))).trans e7) ?_
      refine jr.iast (i := i) (x := v7) rfl (Nat.lt_trans (kx_7 k6.2).1 (by decide)) (kx_7 k6.2).2 (by decide) (by omega) (by omega) ?_
      refine jr.iinc (ls' := [_, _, _]) rfl rfl (by decide) rfl ?_
      refine jr.goto rfl rfl ?_
      refine jr.pick (ls := [_, _, _]) [0, 1, 2] rfl rfl ?_
      exact ih (nM - 1) (by omega) ((ju (ju M ((t + 1)) i v5) ((t + 2)) i v7)) (i + 1) (CI.u (CI.u hC_M (i := i) k4.2 (show (-9223372036854775808 : Int) ≤ _ ∧ _ ≤ (9223372036854775807 : Int) from by omega) rfl) (i := i) k6.2 (show (-2147483648 : Int) ≤ _ ∧ _ ≤ (2147483647 : Int) from by omega) rfl) (FR.o (FR.o ht_M k4.2 rfl) k6.2 rfl) (by omega) (BGE.s hy0 (by omega) (by rw [← hy0.2.2.2 19 i (by omega) (by omega) (by omega)]; exact (e5).symm) (by rw [← hy0.2.2.2 20 i (by omega) (by omega) (by omega)]; exact (e7).symm)) hy1 (by omega)
theorem c_Flow_beginAs_x {A : Nat → Option (Nat × (Nat → Int32))} {Q : Option Value → jm → Prop} {T : jm} {M : jm} (hC_M : CI M) (ht_M : FR W_c_Flow_beginAs_x T M) {t : Nat} (k_t : kd t = 1) (p0 : T = M) (p1 : t ≠ 18 ∧ t + 1 ≠ 20 ∧ t ≠ 19 ∧ t ≠ 20 ∧ t + 2 ≠ 19) (q : ∀ (M' : jm), CI M' → FR W_c_Flow_beginAs_x T M' → (BGN T M' t) → Q none M') : jc A 2 58 [.ref (t), .ref (18)] M Q := by
  refine jc_of (m := xm_58) rfl (Nat.le_of_ble_eq_true rfl) rfl ?_
  refine jr.aload_n rfl rfl ?_
  refine jr.iconst rfl ?_
  refine jr.putf (i := 0) (x := 1) rfl rfl (Nat.lt_trans (kx_1 k_t).1 (by decide)) (kx_1 k_t).2 (by decide) rfl rfl rfl rfl rfl ?_
  refine jr.aload_n rfl rfl ?_
  refine jr.aload_n rfl rfl ?_
  obtain ⟨v1, e1⟩ : ∃ z_, M 18 1 = z_ := ⟨_, rfl⟩
  have b1 : 0 ≤ v1 ∧ v1 ≤ 1 := by rw [← e1]; exact (CI.r hC_M (show kd 18 = 1 from rfl) (by decide) 1)
  refine jr.getf (i := 1) (x := v1) (v := .int (Int32.ofInt (v1))) rfl rfl (by decide) rfl (by decide) rfl rfl ((ju_i _ _ (by decide)).trans e1) rfl ?_
  refine jr.putf (i := 1) (x := v1) rfl rfl (Nat.lt_trans (kx_1 k_t).1 (by decide)) (kx_1 k_t).2 (by decide) rfl rfl rfl (j_zr (by omega)) (j_fz (by omega)) ?_
  refine jr.aload_n rfl rfl ?_
  refine jr.aload_n rfl rfl ?_
  obtain ⟨v2, e2⟩ : ∃ z_, M 18 2 = z_ := ⟨_, rfl⟩
  have b2 : (-2147483648) ≤ v2 ∧ v2 ≤ 2147483647 := by rw [← e2]; exact (CI.r hC_M (show kd 18 = 1 from rfl) (by decide) 2)
  refine jr.getf (i := 2) (x := v2) (v := .int (Int32.ofInt (v2))) rfl rfl (by decide) rfl (by decide) rfl rfl ((ju_i _ _ (by decide)).trans ((ju_i _ _ (by decide)).trans e2)) rfl ?_
  refine jr.putf (i := 2) (x := v2) rfl rfl (Nat.lt_trans (kx_1 k_t).1 (by decide)) (kx_1 k_t).2 (by decide) rfl rfl rfl rfl rfl ?_
  refine jr.iconst rfl ?_
  refine jr.istore_n (ls' := [_, _, _]) rfl (by decide) rfl ?_
  refine jr.pick (ls := [_, _, _]) [0, 1, 2] rfl rfl ?_
  exact c_Flow_beginAs_x_L23 k_t q 2 ((ju (ju (ju M t 0 1) t 1 v1) t 2 v2)) 0 (CI.u (CI.u (CI.u hC_M (i := 0) k_t (show (0 : Int) ≤ _ ∧ _ ≤ (1 : Int) from by omega) rfl) (i := 1) k_t (show (0 : Int) ≤ _ ∧ _ ≤ (1 : Int) from by omega) rfl) (i := 2) k_t (show (-2147483648 : Int) ≤ _ ∧ _ ≤ (2147483647 : Int) from by omega) rfl) (FR.o (FR.o (FR.o ht_M k_t rfl) k_t rfl) k_t rfl) (by omega) ⟨⟨(by rw [show (ju (ju (ju M t 0 1) t 1 v1) t 2 v2) t 0 = 1 from ((ju_i _ _ (by decide)).trans ((ju_i _ _ (by decide)).trans (ju_same _ _ _ _)))]), (by rw [show (ju (ju (ju M t 0 1) t 1 v1) t 2 v2) t 1 = v1 from ((ju_i _ _ (by decide)).trans (ju_same _ _ _ _))]; rw [p0]; omega), (by rw [show (ju (ju (ju M t 0 1) t 1 v1) t 2 v2) t 2 = v2 from (ju_same _ _ _ _)]; rw [p0]; omega)⟩, fun s s0 s1 => absurd s1 (by omega), fun k k0 k1 k2 => by rw [ju_i _ _ k2, ju_i _ _ k1, ju_i _ _ k0, p0], fun b k b0 _ _ => by rw [ju_c _ _ b0, ju_c _ _ b0, ju_c _ _ b0, p0]⟩ p1 (by omega)
end
section
/-! ===== the reference: spans ===== -/
noncomputable def lg6 (M : jm) (x : Int) : Int := M 600 x - M 604 (M 598 65) - M 605 (M 598 65) + M 601 (400 * x + (M 604 (M 598 65) + 13)) / 2 % 2 + M 601 (400 * x + (M 604 (M 598 65) + 13)) % 2
noncomputable def sq6 (M : jm) (x : Int) : Int := j_w (nbs (rf M x) (M 604 (M 598 65) + 4) 4)
end
