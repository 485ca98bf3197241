section
/-! ===== the class: a flow takes a packet in ===== -/
theorem st_v {f : Int → Int} {N C y : Int} (h : kA f N C y = 8) : (0 ≤ vA f N C y 5 ∧ vA f N C y 5 ≤ 255) ∧ (0 ≤ vA f N C y 2 ∧ vA f N C y 2 ≤ 4294967295) ∧ (0 ≤ vA f N C y 6 ∧ vA f N C y 6 ≤ 65535) := by
  have hi := kA_in (f := f) (N := N) (C := C) (x := y) (by omega)
  rw [kA_i hi] at h
  rw [vA_k (j := 5) hi h (by decide +kernel), vof_8_5, vA_k (j := 2) hi h (by decide +kernel), vof_8_2, vA_k (j := 6) hi h (by decide +kernel), vof_8_6]
  omega
/-- sort of a packet of a stream, its sequence, its span -/
noncomputable def tsS (f : Int → Int) (N C y : Int) : Int := scf (vA f N C y 5)
noncomputable def tsQ (f : Int → Int) (N C y : Int) : Int := j_w (vA f N C y 2)
noncomputable def tsN (f : Int → Int) (N C y : Int) : Int := N - enf f N C y + vA f N C y 5 / 2 % 2 + vA f N C y 5 % 2
noncomputable def tsB (s c z : Int) : Int := if c < 5 ∧ 1 ≤ s ∧ s ≤ 10 then xcv_5 (10 * (s - 1) + 5 * z + c) else 0
noncomputable def tsM (M : jm) (t : Nat) (z b e w : Int) : jm := ju (if M (t + 4) z = 0 ∨ 0 < j_w (e - M (t + 3) z) then ju (ju (ju M t 5 b) (t + 3) z e) (t + 4) z 1 else ju M t 5 b) (t + 5) z w
theorem tsM_p {M : jm} {t : Nat} {z b e w : Int} (h : M (t + 4) z = 0 ∨ 0 < j_w (e - M (t + 3) z)) : tsM M t z b e w = ju (ju (ju (ju M t 5 b) (t + 3) z e) (t + 4) z 1) (t + 5) z w := by
  unfold tsM
  rw [if_pos h]
theorem tsM_n {M : jm} {t : Nat} {z b e w : Int} (h : ¬ (M (t + 4) z = 0 ∨ 0 < j_w (e - M (t + 3) z))) : tsM M t z b e w = ju (ju M t 5 b) (t + 5) z w := by
  unfold tsM
  rw [if_neg h]
noncomputable def TSQ (T M : jm) (t : Nat) (f : Int → Int) (N C y z r : Int) : Prop := (tsB (T t 5) (tsS f N C y) z = 0 ∧ r = -7 ∧ M = T) ∨ (tsB (T t 5) (tsS f N C y) z ≠ 0 ∧ ((tsS f N C y = 2 ∨ tsS f N C y = 4) ∧ ioF T t z (tsQ f N C y) (tsN f N C y) = 1) ∧ r = -8 ∧ M = T) ∨ (tsB (T t 5) (tsS f N C y) z ≠ 0 ∧ ¬ ((tsS f N C y = 2 ∨ tsS f N C y = 4) ∧ ioF T t z (tsQ f N C y) (tsN f N C y) = 1) ∧ r = 0 ∧ ∃ B : jm, (((tsS f N C y = 0 ∧ 9 ≤ T t 5) ∧ FGT T B t) ∨ (¬ (tsS f N C y = 0 ∧ 9 ≤ T t 5) ∧ B = T)) ∧ M = tsM B t z (tsB (T t 5) (tsS f N C y) z) (j_w (tsQ f N C y + tsN f N C y)) (vA f N C y 6))
noncomputable def W_c_Flow_takeStream_x : List (Nat × Nat) := [(1, 5), (1, 12), (3, 1000), (4, 1000), (5, 1000), (6, 1000), (8, 1000)]
theorem c_Flow_takeStream_x_L115 {A : Nat → Option (Nat × (Nat → Int32))} {Q : Option Value → jm → Prop} {f : Int → Int} {N : Int} {T : jm} {t : Nat} (k_t : kd t = 1) {C : Int} {y : Int} {z : Int} (q : ∀ (r : Int) (M' : jm), CI M' → FR W_c_Flow_takeStream_x T M' → (-8) ≤ r ∧ r ≤ 0 → (TSQ T M' t f N C y z r) → Q (some (.int (Int32.ofInt r))) M') : ∀ (nM : Nat) (M : jm) (a_ : Int) (c_ : Int) (b_ : Int) (q_ : Int) (n_ : Int), CI M → FR W_c_Flow_takeStream_x T M → 0 ≤ y ∧ y ≤ 11 → 0 ≤ z ∧ z ≤ 1 → 0 ≤ a_ ∧ a_ ≤ 255 → 0 ≤ c_ ∧ c_ ≤ 5 → 1 ≤ b_ ∧ b_ ≤ 10 → (-2147483648) ≤ q_ ∧ q_ ≤ 2147483647 → (-2449) ≤ n_ ∧ n_ ≤ 802 → M 3 3 = C → (HS M 3 f N) → (tsS f N C y = c_ ∧ tsB (T t 5) c_ z = b_ ∧ tsQ f N C y = q_ ∧ tsN f N C y = n_) → (M = T) → (kA f N C y = 8) → 0 ≤ nM → jr A 3 xm_71 115 [(2, .int (Int32.ofInt (y))), (3, .int (Int32.ofInt (z))), (4, .int (Int32.ofInt (a_))), (5, .int (Int32.ofInt (c_))), (6, .int (Int32.ofInt (b_))), (7, .int (Int32.ofInt (q_))), (8, .int (Int32.ofInt (n_))), (0, .ref (t)), (1, .ref (3))] [] M Q := by
  intro nM
  induction nM using Nat.strongRecOn with
  | ind nM ih =>
    intro M a_ c_ b_ q_ n_ hC_M ht_M h_y h_z h_a_ h_c_ h_b_ h_q_ h_n_ g_C hy0 hy1 hy2 hy3 hm
    have b_C : 0 ≤ C ∧ C ≤ 12 := by rw [← g_C]; exact (CI.r hC_M (show kd 3 = 18 from rfl) (by decide) 3)
    refine jr.iload rfl rfl ?_
    refine jr.iconst rfl ?_
    refine jr.icmp_eq rfl rfl (by omega) (by omega) (fun h118 => ?_) (fun h118 => ?_)
    · refine jr.aload_n rfl rfl ?_
      refine jr.iload_n rfl rfl ?_
      refine jr.iload rfl rfl ?_
      refine jr.iload rfl rfl ?_
      refine jr_v rfl rfl (Or.inl rfl) rfl rfl (Nat.lt_trans (kx_1 k_t).1 (by decide)) (kx_1 k_t).2 ⟨rfl, Nat.le_of_ble_eq_true rfl, Nat.le_of_ble_eq_true rfl⟩ rfl (jc.deep (c_Flow_isOut_x hC_M k_t (by omega) (by omega) (by omega) (fun r1 z1 w1_0 => ?_)) (by decide))
      skip
      refine jr.if_eq rfl rfl (by omega) (fun h136 => ?_) (fun h136 => ?_)
      · refine jr.iload rfl rfl ?_
        refine jr.if_ne rfl rfl (by omega) (fun h144 => ?_) (fun h144 => ?_)
        · refine jr.aload_n rfl rfl ?_
          refine jr.iload rfl rfl ?_
          refine jr.putf (i := 5) (x := b_) rfl rfl (Nat.lt_trans (kx_1 k_t).1 (by decide)) (kx_1 k_t).2 (by decide) rfl rfl rfl rfl rfl ?_
          refine jr.aload_n rfl rfl ?_
          have k2 := kf_1_8 k_t
          refine jr.getf (i := 8) (v := .ref (t + 4)) rfl rfl (Nat.lt_trans (kx_1 k_t).1 (by decide)) (kx_1 k_t).2 (by decide) rfl rfl rfl (jval_ref rfl k2.1) ?_
          refine jr.iload_n rfl rfl ?_
          obtain ⟨v3, e3⟩ : ∃ z_, M ((t + 4)) z = z_ := ⟨_, rfl⟩
          have b3 : 0 ≤ v3 ∧ v3 ≤ 1 := by rw [← e3]; exact (CI.r hC_M k2.2 (by decide) z)
          refine jr.zald (i := z) (x := v3) rfl (Nat.lt_trans (kx_4 k2.2).1 (by decide)) (kx_4 k2.2).2 (by decide) (by omega) (by omega) ((ju_c _ _ (kd_ne (by rw [k2.2, k_t]; decide))).trans e3) ?_
          refine jr.if_eq rfl rfl (by omega) (fun h172 => ?_) (fun h172 => ?_)
          · refine jr.aload_n rfl rfl ?_
            have k4 := kf_1_7 k_t
            refine jr.getf (i := 7) (v := .ref (t + 3)) rfl rfl (Nat.lt_trans (kx_1 k_t).1 (by decide)) (kx_1 k_t).2 (by decide) rfl rfl rfl (jval_ref rfl k4.1) ?_
            refine jr.iload_n rfl rfl ?_
            refine jr.iload rfl rfl ?_
            refine jr.iload rfl rfl ?_
            refine jr.iadd rfl ?_
            refine jr.iw (j_w (q_ + n_)) (j_w_eq _) ?_
            have b5 : -2147483648 ≤ j_w (q_ + n_) ∧ j_w (q_ + n_) ≤ 2147483647 := jb_any _
            refine jr.iast (i := z) (x := (j_w (q_ + n_))) rfl (Nat.lt_trans (kx_5 k4.2).1 (by decide)) (kx_5 k4.2).2 (by decide) (by omega) (by omega) ?_
            refine jr.aload_n rfl rfl ?_
            have k6 := kf_1_8 k_t
            refine jr.getf (i := 8) (v := .ref (t + 4)) rfl rfl (Nat.lt_trans (kx_1 k_t).1 (by decide)) (kx_1 k_t).2 (by decide) rfl rfl rfl (jval_ref rfl k6.1) ?_
            refine jr.iload_n rfl rfl ?_
            refine jr.iconst rfl ?_
            refine jr.zast (i := z) (x := 1) rfl (Nat.lt_trans (kx_4 k6.2).1 (by decide)) (kx_4 k6.2).2 (by decide) (by omega) (by omega) (j_zn (by omega)) ?_
            refine jr.aload_n rfl rfl ?_
            have k7 := kf_1_9 k_t
            refine jr.getf (i := 9) (v := .ref (t + 5)) rfl rfl (Nat.lt_trans (kx_1 k_t).1 (by decide)) (kx_1 k_t).2 (by decide) rfl rfl rfl (jval_ref rfl k7.1) ?_
            refine jr.iload_n rfl rfl ?_
            refine jr.aload_n rfl rfl ?_
            refine jr.iload_n rfl rfl ?_
            refine jr.bipush rfl (by decide) ?_
            refine jr_v rfl rfl (Or.inl rfl) rfl rfl (by decide) rfl ⟨rfl, Nat.le_of_ble_eq_true rfl, Nat.le_of_ble_eq_true rfl⟩ rfl (jc.deep (c_Headers_valueOf_x (CI.u (CI.u (CI.u hC_M (i := 5) k_t (show (-2147483648 : Int) ≤ _ ∧ _ ≤ (2147483647 : Int) from by omega) rfl) (i := z) k4.2 (show (-2147483648 : Int) ≤ _ ∧ _ ≤ (2147483647 : Int) from by omega) rfl) (i := z) k6.2 (show (0 : Int) ≤ _ ∧ _ ≤ (1 : Int) from by omega) rfl) (show kd 3 = 18 from rfl) (by omega) (by omega) ((ju_c _ _ (kd_ne (by rw [(show kd 3 = 18 from rfl), k6.2]; decide))).trans ((ju_c _ _ (kd_ne (by rw [(show kd 3 = 18 from rfl), k4.2]; decide))).trans ((ju_i _ _ (by decide)).trans g_C))) (HS.fr hy0 (show kd 3 = 18 from rfl) hC_M (FR.o (FR.o (FR.o (FR.rfl [(1, 5), (4, 1000), (5, 1000)] M) k_t rfl) k4.2 rfl) k6.2 rfl) rfl) (fun r8 z8 w8_0 => ?_)) (by decide))
            have hv8 : 0 ≤ r8 ∧ r8 ≤ 65535 := (by have h9 := (st_v hy3).2.2; rw [← w8_0] at h9; exact h9)
            refine jr.l2i rfl ?_
            refine jr.iast (i := z) (x := r8) rfl (Nat.lt_trans (kx_8 k7.2).1 (by decide)) (kx_8 k7.2).2 (by decide) (by omega) (by omega) ?_
            refine jr.iconst rfl ?_
            exact jr.ireturn rfl rfl rfl (q _ _ (CI.u (CI.u (CI.u (CI.u hC_M (i := 5) k_t (show (-2147483648 : Int) ≤ _ ∧ _ ≤ (2147483647 : Int) from by omega) rfl) (i := z) k4.2 (show (-2147483648 : Int) ≤ _ ∧ _ ≤ (2147483647 : Int) from by omega) rfl) (i := z) k6.2 (show (0 : Int) ≤ _ ∧ _ ≤ (1 : Int) from by omega) rfl) (i := z) k7.2 (show (-2147483648 : Int) ≤ _ ∧ _ ≤ (2147483647 : Int) from by omega) rfl) (FR.o (FR.o (FR.o (FR.o ht_M k_t rfl) k4.2 rfl) k6.2 rfl) k7.2 rfl) (by omega) (by obtain ⟨hs, hb, hq, hn⟩ := hy1; have hT := hy2; have hio : ioF T t z (tsQ f N C y) (tsN f N C y) = r1 := (by rw [hq, hn, ← hT, ← w1_0]); exact Or.inr (Or.inr ⟨by rw [hs, hb]; omega, (fun u => by rw [hs, hio] at u; omega), rfl, M, Or.inr ⟨(fun u => by rw [hs, ← hT] at u; omega), hT⟩, by rw [hs, hb, hq, hn, ← w8_0]; rw [tsM_p (by rw [e3]; first | (left; omega) | (right; omega))]⟩)))
          · have sx172 : (1 : Int) ≤ v3 := by omega
            refine jr.iload rfl rfl ?_
            refine jr.iload rfl rfl ?_
            refine jr.iadd rfl ?_
            refine jr.iw (j_w (q_ + n_)) (j_w_eq _) ?_
            have b9 : -2147483648 ≤ j_w (q_ + n_) ∧ j_w (q_ + n_) ≤ 2147483647 := jb_any _
            refine jr.aload_n rfl rfl ?_
            have k10 := kf_1_7 k_t
            refine jr.getf (i := 7) (v := .ref (t + 3)) rfl rfl (Nat.lt_trans (kx_1 k_t).1 (by decide)) (kx_1 k_t).2 (by decide) rfl rfl rfl (jval_ref rfl k10.1) ?_
            refine jr.iload_n rfl rfl ?_
            obtain ⟨v11, e11⟩ : ∃ z_, M ((t + 3)) z = z_ := ⟨_, rfl⟩
            have b11 : (-2147483648) ≤ v11 ∧ v11 ≤ 2147483647 := by rw [← e11]; exact (CI.r hC_M k10.2 (by decide) z)
            refine jr.iald (i := z) (x := v11) rfl (Nat.lt_trans (kx_5 k10.2).1 (by decide)) (kx_5 k10.2).2 (by decide) (by omega) (by omega) ((ju_c _ _ (kd_ne (by rw [k10.2, k_t]; decide))).trans e11) ?_
            refine jr.isub rfl ?_
            refine jr.iw (j_w ((j_w (q_ + n_)) - v11)) (j_w_eq _) ?_
            have b12 : -2147483648 ≤ j_w ((j_w (q_ + n_)) - v11) ∧ j_w ((j_w (q_ + n_)) - v11) ≤ 2147483647 := jb_any _
            refine jr.if_le rfl rfl (by omega) (fun h187 => ?_) (fun h187 => ?_)
            · refine jr.aload_n rfl rfl ?_
              have k13 := kf_1_9 k_t
              refine jr.getf (i := 9) (v := .ref (t + 5)) rfl rfl (Nat.lt_trans (kx_1 k_t).1 (by decide)) (kx_1 k_t).2 (by decide) rfl rfl rfl (jval_ref rfl k13.1) ?_
              refine jr.iload_n rfl rfl ?_
              refine jr.aload_n rfl rfl ?_
              refine jr.iload_n rfl rfl ?_
              refine jr.bipush rfl (by decide) ?_
              refine jr_v rfl rfl (Or.inl rfl) rfl rfl (by decide) rfl ⟨rfl, Nat.le_of_ble_eq_true rfl, Nat.le_of_ble_eq_true rfl⟩ rfl (jc.deep (c_Headers_valueOf_x (CI.u hC_M (i := 5) k_t (show (-2147483648 : Int) ≤ _ ∧ _ ≤ (2147483647 : Int) from by omega) rfl) (show kd 3 = 18 from rfl) (by omega) (by omega) ((ju_i _ _ (by decide)).trans g_C) (HS.fr hy0 (show kd 3 = 18 from rfl) hC_M (FR.o (FR.rfl [(1, 5)] M) k_t rfl) rfl) (fun r14 z14 w14_0 => ?_)) (by decide))
              have hv14 : 0 ≤ r14 ∧ r14 ≤ 65535 := (by have h9 := (st_v hy3).2.2; rw [← w14_0] at h9; exact h9)
              refine jr.l2i rfl ?_
              refine jr.iast (i := z) (x := r14) rfl (Nat.lt_trans (kx_8 k13.2).1 (by decide)) (kx_8 k13.2).2 (by decide) (by omega) (by omega) ?_
              refine jr.iconst rfl ?_
              exact jr.ireturn rfl rfl rfl (q _ _ (CI.u (CI.u hC_M (i := 5) k_t (show (-2147483648 : Int) ≤ _ ∧ _ ≤ (2147483647 : Int) from by omega) rfl) (i := z) k13.2 (show (-2147483648 : Int) ≤ _ ∧ _ ≤ (2147483647 : Int) from by omega) rfl) (FR.o (FR.o ht_M k_t rfl) k13.2 rfl) (by omega) (by obtain ⟨hs, hb, hq, hn⟩ := hy1; have hT := hy2; have hio : ioF T t z (tsQ f N C y) (tsN f N C y) = r1 := (by rw [hq, hn, ← hT, ← w1_0]); exact Or.inr (Or.inr ⟨by rw [hs, hb]; omega, (fun u => by rw [hs, hio] at u; omega), rfl, M, Or.inr ⟨(fun u => by rw [hs, ← hT] at u; omega), hT⟩, by rw [hs, hb, hq, hn, ← w14_0]; rw [tsM_n (by rw [e3, e11]; omega)]⟩)))
            · refine jr.aload_n rfl rfl ?_
              have k15 := kf_1_7 k_t
              refine jr.getf (i := 7) (v := .ref (t + 3)) rfl rfl (Nat.lt_trans (kx_1 k_t).1 (by decide)) (kx_1 k_t).2 (by decide) rfl rfl rfl (jval_ref rfl k15.1) ?_
              refine jr.iload_n rfl rfl ?_
              refine jr.iload rfl rfl ?_
              refine jr.iload rfl rfl ?_
              refine jr.iadd rfl ?_
              refine jr.iw (j_w (q_ + n_)) (j_w_eq _) ?_
              have b16 : -2147483648 ≤ j_w (q_ + n_) ∧ j_w (q_ + n_) ≤ 2147483647 := jb_any _
              refine jr.iast (i := z) (x := (j_w (q_ + n_))) rfl (Nat.lt_trans (kx_5 k15.2).1 (by decide)) (kx_5 k15.2).2 (by decide) (by omega) (by omega) ?_
              refine jr.aload_n rfl rfl ?_
              have k17 := kf_1_8 k_t
              refine jr.getf (i := 8) (v := .ref (t + 4)) rfl rfl (Nat.lt_trans (kx_1 k_t).1 (by decide)) (kx_1 k_t).2 (by decide) rfl rfl rfl (jval_ref rfl k17.1) ?_
              refine jr.iload_n rfl rfl ?_
              refine jr.iconst rfl ?_
              refine jr.zast (i := z) (x := 1) rfl (Nat.lt_trans (kx_4 k17.2).1 (by decide)) (kx_4 k17.2).2 (by decide) (by omega) (by omega) (j_zn (by omega)) ?_
              refine jr.aload_n rfl rfl ?_
              have k18 := kf_1_9 k_t
              refine jr.getf (i := 9) (v := .ref (t + 5)) rfl rfl (Nat.lt_trans (kx_1 k_t).1 (by decide)) (kx_1 k_t).2 (by decide) rfl rfl rfl (jval_ref rfl k18.1) ?_
              refine jr.iload_n rfl rfl ?_
              refine jr.aload_n rfl rfl ?_
              refine jr.iload_n rfl rfl ?_
              refine jr.bipush rfl (by decide) ?_
              refine jr_v rfl rfl (Or.inl rfl) rfl rfl (by decide) rfl ⟨rfl, Nat.le_of_ble_eq_true rfl, Nat.le_of_ble_eq_true rfl⟩ rfl (jc.deep (c_Headers_valueOf_x (CI.u (CI.u (CI.u hC_M (i := 5) k_t (show (-2147483648 : Int) ≤ _ ∧ _ ≤ (2147483647 : Int) from by omega) rfl) (i := z) k15.2 (show (-2147483648 : Int) ≤ _ ∧ _ ≤ (2147483647 : Int) from by omega) rfl) (i := z) k17.2 (show (0 : Int) ≤ _ ∧ _ ≤ (1 : Int) from by omega) rfl) (show kd 3 = 18 from rfl) (by omega) (by omega) ((ju_c _ _ (kd_ne (by rw [(show kd 3 = 18 from rfl), k17.2]; decide))).trans ((ju_c _ _ (kd_ne (by rw [(show kd 3 = 18 from rfl), k15.2]; decide))).trans ((ju_i _ _ (by decide)).trans g_C))) (HS.fr hy0 (show kd 3 = 18 from rfl) hC_M (FR.o (FR.o (FR.o (FR.rfl [(1, 5), (4, 1000), (5, 1000)] M) k_t rfl) k15.2 rfl) k17.2 rfl) rfl) (fun r19 z19 w19_0 => ?_)) (by decide))
              have hv19 : 0 ≤ r19 ∧ r19 ≤ 65535 := (by have h9 := (st_v hy3).2.2; rw [← w19_0] at h9; exact h9)
              refine jr.l2i rfl ?_
              refine jr.iast (i := z) (x := r19) rfl (Nat.lt_trans (kx_8 k18.2).1 (by decide)) (kx_8 k18.2).2 (by decide) (by omega) (by omega) ?_
              refine jr.iconst rfl ?_
              exact jr.ireturn rfl rfl rfl (q _ _ (CI.u (CI.u (CI.u (CI.u hC_M (i := 5) k_t (show (-2147483648 : Int) ≤ _ ∧ _ ≤ (2147483647 : Int) from by omega) rfl) (i := z) k15.2 (show (-2147483648 : Int) ≤ _ ∧ _ ≤ (2147483647 : Int) from by omega) rfl) (i := z) k17.2 (show (0 : Int) ≤ _ ∧ _ ≤ (1 : Int) from by omega) rfl) (i := z) k18.2 (show (-2147483648 : Int) ≤ _ ∧ _ ≤ (2147483647 : Int) from by omega) rfl) (FR.o (FR.o (FR.o (FR.o ht_M k_t rfl) k15.2 rfl) k17.2 rfl) k18.2 rfl) (by omega) (by obtain ⟨hs, hb, hq, hn⟩ := hy1; have hT := hy2; have hio : ioF T t z (tsQ f N C y) (tsN f N C y) = r1 := (by rw [hq, hn, ← hT, ← w1_0]); exact Or.inr (Or.inr ⟨by rw [hs, hb]; omega, (fun u => by rw [hs, hio] at u; omega), rfl, M, Or.inr ⟨(fun u => by rw [hs, ← hT] at u; omega), hT⟩, by rw [hs, hb, hq, hn, ← w19_0]; rw [tsM_p (by rw [e3, e11]; first | (left; omega) | (right; omega))]⟩)))
        · exact absurd (by omega) h144
      · have sx136 : (1 : Int) ≤ r1 := by omega
        refine jr.bipush rfl (by decide) ?_
        exact jr.ireturn rfl rfl rfl (q _ _ hC_M ht_M (by omega) (by obtain ⟨hs, hb, hq, hn⟩ := hy1; have hT := hy2; have hio : ioF T t z (tsQ f N C y) (tsN f N C y) = r1 := (by rw [hq, hn, ← hT, ← w1_0]); exact Or.inr (Or.inl ⟨by rw [hs, hb]; omega, (by rw [hs, hio]; omega), rfl, hT⟩)))
    · refine jr.iload rfl rfl ?_
      refine jr.iconst rfl ?_
      refine jr.icmp_ne rfl rfl (by omega) (by omega) (fun h124 => ?_) (fun h124 => ?_)
      · refine jr.iload rfl rfl ?_
        refine jr.if_ne rfl rfl (by omega) (fun h144 => ?_) (fun h144 => ?_)
        · have sx144 : (1 : Int) ≤ c_ := by omega
          refine jr.aload_n rfl rfl ?_
          refine jr.iload rfl rfl ?_
          refine jr.putf (i := 5) (x := b_) rfl rfl (Nat.lt_trans (kx_1 k_t).1 (by decide)) (kx_1 k_t).2 (by decide) rfl rfl rfl rfl rfl ?_
          refine jr.aload_n rfl rfl ?_
          have k20 := kf_1_8 k_t
          refine jr.getf (i := 8) (v := .ref (t + 4)) rfl rfl (Nat.lt_trans (kx_1 k_t).1 (by decide)) (kx_1 k_t).2 (by decide) rfl rfl rfl (jval_ref rfl k20.1) ?_
          refine jr.iload_n rfl rfl ?_
          obtain ⟨v21, e21⟩ : ∃ z_, M ((t + 4)) z = z_ := ⟨_, rfl⟩
          have b21 : 0 ≤ v21 ∧ v21 ≤ 1 := by rw [← e21]; exact (CI.r hC_M k20.2 (by decide) z)
          refine jr.zald (i := z) (x := v21) rfl (Nat.lt_trans (kx_4 k20.2).1 (by decide)) (kx_4 k20.2).2 (by decide) (by omega) (by omega) ((ju_c _ _ (kd_ne (by rw [k20.2, k_t]; decide))).trans e21) ?_
          refine jr.if_eq rfl rfl (by omega) (fun h172 => ?_) (fun h172 => ?_)
          · refine jr.aload_n rfl rfl ?_
            have k22 := kf_1_7 k_t
            refine jr.getf (i := 7) (v := .ref (t + 3)) rfl rfl (Nat.lt_trans (kx_1 k_t).1 (by decide)) (kx_1 k_t).2 (by decide) rfl rfl rfl (jval_ref rfl k22.1) ?_
            refine jr.iload_n rfl rfl ?_
            refine jr.iload rfl rfl ?_
            refine jr.iload rfl rfl ?_
            refine jr.iadd rfl ?_
            refine jr.iw (j_w (q_ + n_)) (j_w_eq _) ?_
            have b23 : -2147483648 ≤ j_w (q_ + n_) ∧ j_w (q_ + n_) ≤ 2147483647 := jb_any _
            refine jr.iast (i := z) (x := (j_w (q_ + n_))) rfl (Nat.lt_trans (kx_5 k22.2).1 (by decide)) (kx_5 k22.2).2 (by decide) (by omega) (by omega) ?_
            refine jr.aload_n rfl rfl ?_
            have k24 := kf_1_8 k_t
            refine jr.getf (i := 8) (v := .ref (t + 4)) rfl rfl (Nat.lt_trans (kx_1 k_t).1 (by decide)) (kx_1 k_t).2 (by decide) rfl rfl rfl (jval_ref rfl k24.1) ?_
            refine jr.iload_n rfl rfl ?_
            refine jr.iconst rfl ?_
            refine jr.zast (i := z) (x := 1) rfl (Nat.lt_trans (kx_4 k24.2).1 (by decide)) (kx_4 k24.2).2 (by decide) (by omega) (by omega) (j_zn (by omega)) ?_
            refine jr.aload_n rfl rfl ?_
            have k25 := kf_1_9 k_t
            refine jr.getf (i := 9) (v := .ref (t + 5)) rfl rfl (Nat.lt_trans (kx_1 k_t).1 (by decide)) (kx_1 k_t).2 (by decide) rfl rfl rfl (jval_ref rfl k25.1) ?_
            refine jr.iload_n rfl rfl ?_
            refine jr.aload_n rfl rfl ?_
            refine jr.iload_n rfl rfl ?_
            refine jr.bipush rfl (by decide) ?_
            refine jr_v rfl rfl (Or.inl rfl) rfl rfl (by decide) rfl ⟨rfl, Nat.le_of_ble_eq_true rfl, Nat.le_of_ble_eq_true rfl⟩ rfl (jc.deep (c_Headers_valueOf_x (CI.u (CI.u (CI.u hC_M (i := 5) k_t (show (-2147483648 : Int) ≤ _ ∧ _ ≤ (2147483647 : Int) from by omega) rfl) (i := z) k22.2 (show (-2147483648 : Int) ≤ _ ∧ _ ≤ (2147483647 : Int) from by omega) rfl) (i := z) k24.2 (show (0 : Int) ≤ _ ∧ _ ≤ (1 : Int) from by omega) rfl) (show kd 3 = 18 from rfl) (by omega) (by omega) ((ju_c _ _ (kd_ne (by rw [(show kd 3 = 18 from rfl), k24.2]; decide))).trans ((ju_c _ _ (kd_ne (by rw [(show kd 3 = 18 from rfl), k22.2]; decide))).trans ((ju_i _ _ (by decide)).trans g_C))) (HS.fr hy0 (show kd 3 = 18 from rfl) hC_M (FR.o (FR.o (FR.o (FR.rfl [(1, 5), (4, 1000), (5, 1000)] M) k_t rfl) k22.2 rfl) k24.2 rfl) rfl) (fun r26 z26 w26_0 => ?_)) (by decide))
            have hv26 : 0 ≤ r26 ∧ r26 ≤ 65535 := (by have h9 := (st_v hy3).2.2; rw [← w26_0] at h9; exact h9)
            refine jr.l2i rfl ?_
            refine jr.iast (i := z) (x := r26) rfl (Nat.lt_trans (kx_8 k25.2).1 (by decide)) (kx_8 k25.2).2 (by decide) (by omega) (by omega) ?_
            refine jr.iconst rfl ?_
            exact jr.ireturn rfl rfl rfl (q _ _ (CI.u (CI.u (CI.u (CI.u hC_M (i := 5) k_t (show (-2147483648 : Int) ≤ _ ∧ _ ≤ (2147483647 : Int) from by omega) rfl) (i := z) k22.2 (show (-2147483648 : Int) ≤ _ ∧ _ ≤ (2147483647 : Int) from by omega) rfl) (i := z) k24.2 (show (0 : Int) ≤ _ ∧ _ ≤ (1 : Int) from by omega) rfl) (i := z) k25.2 (show (-2147483648 : Int) ≤ _ ∧ _ ≤ (2147483647 : Int) from by omega) rfl) (FR.o (FR.o (FR.o (FR.o ht_M k_t rfl) k22.2 rfl) k24.2 rfl) k25.2 rfl) (by omega) (by obtain ⟨hs, hb, hq, hn⟩ := hy1; have hT := hy2; exact Or.inr (Or.inr ⟨by rw [hs, hb]; omega, (fun u => by rw [hs] at u; omega), rfl, M, Or.inr ⟨(fun u => by rw [hs, ← hT] at u; omega), hT⟩, by rw [hs, hb, hq, hn, ← w26_0]; rw [tsM_p (by rw [e21]; first | (left; omega) | (right; omega))]⟩)))
          · have sx172 : (1 : Int) ≤ v21 := by omega
            refine jr.iload rfl rfl ?_
            refine jr.iload rfl rfl ?_
            refine jr.iadd rfl ?_
            refine jr.iw (j_w (q_ + n_)) (j_w_eq _) ?_
            have b27 : -2147483648 ≤ j_w (q_ + n_) ∧ j_w (q_ + n_) ≤ 2147483647 := jb_any _
            refine jr.aload_n rfl rfl ?_
            have k28 := kf_1_7 k_t
            refine jr.getf (i := 7) (v := .ref (t + 3)) rfl rfl (Nat.lt_trans (kx_1 k_t).1 (by decide)) (kx_1 k_t).2 (by decide) rfl rfl rfl (jval_ref rfl k28.1) ?_
            refine jr.iload_n rfl rfl ?_
            obtain ⟨v29, e29⟩ : ∃ z_, M ((t + 3)) z = z_ := ⟨_, rfl⟩
            have b29 : (-2147483648) ≤ v29 ∧ v29 ≤ 2147483647 := by rw [← e29]; exact (CI.r hC_M k28.2 (by decide) z)
            refine jr.iald (i := z) (x := v29) rfl (Nat.lt_trans (kx_5 k28.2).1 (by decide)) (kx_5 k28.2).2 (by decide) (by omega) (by omega) ((ju_c _ _ (kd_ne (by rw [k28.2, k_t]; decide))).trans e29) ?_
            refine jr.isub rfl ?_
            refine jr.iw (j_w ((j_w (q_ + n_)) - v29)) (j_w_eq _) ?_
            have b30 : -2147483648 ≤ j_w ((j_w (q_ + n_)) - v29) ∧ j_w ((j_w (q_ + n_)) - v29) ≤ 2147483647 := jb_any _
            refine jr.if_le rfl rfl (by omega) (fun h187 => ?_) (fun h187 => ?_)
            · refine jr.aload_n rfl rfl ?_
              have k31 := kf_1_9 k_t
              refine jr.getf (i := 9) (v := .ref (t + 5)) rfl rfl (Nat.lt_trans (kx_1 k_t).1 (by decide)) (kx_1 k_t).2 (by decide) rfl rfl rfl (jval_ref rfl k31.1) ?_
              refine jr.iload_n rfl rfl ?_
              refine jr.aload_n rfl rfl ?_
              refine jr.iload_n rfl rfl ?_
              refine jr.bipush rfl (by decide) ?_
              refine jr_v rfl rfl (Or.inl rfl) rfl rfl (by decide) rfl ⟨rfl, Nat.le_of_ble_eq_true rfl, Nat.le_of_ble_eq_true rfl⟩ rfl (jc.deep (c_Headers_valueOf_x (CI.u hC_M (i := 5) k_t (show (-2147483648 : Int) ≤ _ ∧ _ ≤ (2147483647 : Int) from by omega) rfl) (show kd 3 = 18 from rfl) (by omega) (by omega) ((ju_i _ _ (by decide)).trans g_C) (HS.fr hy0 (show kd 3 = 18 from rfl) hC_M (FR.o (FR.rfl [(1, 5)] M) k_t rfl) rfl) (fun r32 z32 w32_0 => ?_)) (by decide))
              have hv32 : 0 ≤ r32 ∧ r32 ≤ 65535 := (by have h9 := (st_v hy3).2.2; rw [← w32_0] at h9; exact h9)
              refine jr.l2i rfl ?_
              refine jr.iast (i := z) (x := r32) rfl (Nat.lt_trans (kx_8 k31.2).1 (by decide)) (kx_8 k31.2).2 (by decide) (by omega) (by omega) ?_
              refine jr.iconst rfl ?_
              exact jr.ireturn rfl rfl rfl (q _ _ (CI.u (CI.u hC_M (i := 5) k_t (show (-2147483648 : Int) ≤ _ ∧ _ ≤ (2147483647 : Int) from by omega) rfl) (i := z) k31.2 (show (-2147483648 : Int) ≤ _ ∧ _ ≤ (2147483647 : Int) from by omega) rfl) (FR.o (FR.o ht_M k_t rfl) k31.2 rfl) (by omega) (by obtain ⟨hs, hb, hq, hn⟩ := hy1; have hT := hy2; exact Or.inr (Or.inr ⟨by rw [hs, hb]; omega, (fun u => by rw [hs] at u; omega), rfl, M, Or.inr ⟨(fun u => by rw [hs, ← hT] at u; omega), hT⟩, by rw [hs, hb, hq, hn, ← w32_0]; rw [tsM_n (by rw [e21, e29]; omega)]⟩)))
            · refine jr.aload_n rfl rfl ?_
              have k33 := kf_1_7 k_t
              refine jr.getf (i := 7) (v := .ref (t + 3)) rfl rfl (Nat.lt_trans (kx_1 k_t).1 (by decide)) (kx_1 k_t).2 (by decide) rfl rfl rfl (jval_ref rfl k33.1) ?_
              refine jr.iload_n rfl rfl ?_
              refine jr.iload rfl rfl ?_
              refine jr.iload rfl rfl ?_
              refine jr.iadd rfl ?_
              refine jr.iw (j_w (q_ + n_)) (j_w_eq _) ?_
              have b34 : -2147483648 ≤ j_w (q_ + n_) ∧ j_w (q_ + n_) ≤ 2147483647 := jb_any _
              refine jr.iast (i := z) (x := (j_w (q_ + n_))) rfl (Nat.lt_trans (kx_5 k33.2).1 (by decide)) (kx_5 k33.2).2 (by decide) (by omega) (by omega) ?_
              refine jr.aload_n rfl rfl ?_
              have k35 := kf_1_8 k_t
              refine jr.getf (i := 8) (v := .ref (t + 4)) rfl rfl (Nat.lt_trans (kx_1 k_t).1 (by decide)) (kx_1 k_t).2 (by decide) rfl rfl rfl (jval_ref rfl k35.1) ?_
              refine jr.iload_n rfl rfl ?_
              refine jr.iconst rfl ?_
              refine jr.zast (i := z) (x := 1) rfl (Nat.lt_trans (kx_4 k35.2).1 (by decide)) (kx_4 k35.2).2 (by decide) (by omega) (by omega) (j_zn (by omega)) ?_
              refine jr.aload_n rfl rfl ?_
              have k36 := kf_1_9 k_t
              refine jr.getf (i := 9) (v := .ref (t + 5)) rfl rfl (Nat.lt_trans (kx_1 k_t).1 (by decide)) (kx_1 k_t).2 (by decide) rfl rfl rfl (jval_ref rfl k36.1) ?_
              refine jr.iload_n rfl rfl ?_
              refine jr.aload_n rfl rfl ?_
              refine jr.iload_n rfl rfl ?_
              refine jr.bipush rfl (by decide) ?_
              refine jr_v rfl rfl (Or.inl rfl) rfl rfl (by decide) rfl ⟨rfl, Nat.le_of_ble_eq_true rfl, Nat.le_of_ble_eq_true rfl⟩ rfl (jc.deep (c_Headers_valueOf_x (CI.u (CI.u (CI.u hC_M (i := 5) k_t (show (-2147483648 : Int) ≤ _ ∧ _ ≤ (2147483647 : Int) from by omega) rfl) (i := z) k33.2 (show (-2147483648 : Int) ≤ _ ∧ _ ≤ (2147483647 : Int) from by omega) rfl) (i := z) k35.2 (show (0 : Int) ≤ _ ∧ _ ≤ (1 : Int) from by omega) rfl) (show kd 3 = 18 from rfl) (by omega) (by omega) ((ju_c _ _ (kd_ne (by rw [(show kd 3 = 18 from rfl), k35.2]; decide))).trans ((ju_c _ _ (kd_ne (by rw [(show kd 3 = 18 from rfl), k33.2]; decide))).trans ((ju_i _ _ (by decide)).trans g_C))) (HS.fr hy0 (show kd 3 = 18 from rfl) hC_M (FR.o (FR.o (FR.o (FR.rfl [(1, 5), (4, 1000), (5, 1000)] M) k_t rfl) k33.2 rfl) k35.2 rfl) rfl) (fun r37 z37 w37_0 => ?_)) (by decide))
              have hv37 : 0 ≤ r37 ∧ r37 ≤ 65535 := (by have h9 := (st_v hy3).2.2; rw [← w37_0] at h9; exact h9)
              refine jr.l2i rfl ?_
              refine jr.iast (i := z) (x := r37) rfl (Nat.lt_trans (kx_8 k36.2).1 (by decide)) (kx_8 k36.2).2 (by decide) (by omega) (by omega) ?_
              refine jr.iconst rfl ?_
              exact jr.ireturn rfl rfl rfl (q _ _ (CI.u (CI.u (CI.u (CI.u hC_M (i := 5) k_t (show (-2147483648 : Int) ≤ _ ∧ _ ≤ (2147483647 : Int) from by omega) rfl) (i := z) k33.2 (show (-2147483648 : Int) ≤ _ ∧ _ ≤ (2147483647 : Int) from by omega) rfl) (i := z) k35.2 (show (0 : Int) ≤ _ ∧ _ ≤ (1 : Int) from by omega) rfl) (i := z) k36.2 (show (-2147483648 : Int) ≤ _ ∧ _ ≤ (2147483647 : Int) from by omega) rfl) (FR.o (FR.o (FR.o (FR.o ht_M k_t rfl) k33.2 rfl) k35.2 rfl) k36.2 rfl) (by omega) (by obtain ⟨hs, hb, hq, hn⟩ := hy1; have hT := hy2; exact Or.inr (Or.inr ⟨by rw [hs, hb]; omega, (fun u => by rw [hs] at u; omega), rfl, M, Or.inr ⟨(fun u => by rw [hs, ← hT] at u; omega), hT⟩, by rw [hs, hb, hq, hn, ← w37_0]; rw [tsM_p (by rw [e21, e29]; first | (left; omega) | (right; omega))]⟩)))
        · refine jr.aload_n rfl rfl ?_
          obtain ⟨v38, e38⟩ : ∃ z_, M t 5 = z_ := ⟨_, rfl⟩
          have b38 : (-2147483648) ≤ v38 ∧ v38 ≤ 2147483647 := by rw [← e38]; exact (CI.r hC_M k_t (by decide) 5)
          refine jr.getf (i := 5) (x := v38) (v := .int (Int32.ofInt (v38))) rfl rfl (Nat.lt_trans (kx_1 k_t).1 (by decide)) (kx_1 k_t).2 (by decide) rfl rfl e38 rfl ?_
          refine jr.bipush rfl (by decide) ?_
          refine jr.icmp_lt rfl rfl (by omega) (by omega) (fun h153 => ?_) (fun h153 => ?_)
          · refine jr.aload_n rfl rfl ?_
            refine jr.iload rfl rfl ?_
            refine jr.putf (i := 5) (x := b_) rfl rfl (Nat.lt_trans (kx_1 k_t).1 (by decide)) (kx_1 k_t).2 (by decide) rfl rfl rfl rfl rfl ?_
            refine jr.aload_n rfl rfl ?_
            have k39 := kf_1_8 k_t
            refine jr.getf (i := 8) (v := .ref (t + 4)) rfl rfl (Nat.lt_trans (kx_1 k_t).1 (by decide)) (kx_1 k_t).2 (by decide) rfl rfl rfl (jval_ref rfl k39.1) ?_
            refine jr.iload_n rfl rfl ?_
            obtain ⟨v40, e40⟩ : ∃ z_, M ((t + 4)) z = z_ := ⟨_, rfl⟩
            have b40 : 0 ≤ v40 ∧ v40 ≤ 1 := by rw [← e40]; exact (CI.r hC_M k39.2 (by decide) z)
            refine jr.zald (i := z) (x := v40) rfl (Nat.lt_trans (kx_4 k39.2).1 (by decide)) (kx_4 k39.2).2 (by decide) (by omega) (by omega) ((ju_c _ _ (kd_ne (by rw [k39.2, k_t]; decide))).trans e40) ?_
            refine jr.if_eq rfl rfl (by omega) (fun h172 => ?_) (fun h172 => ?_)
            · refine jr.aload_n rfl rfl ?_
              have k41 := kf_1_7 k_t
              refine jr.getf (i := 7) (v := .ref (t + 3)) rfl rfl (Nat.lt_trans (kx_1 k_t).1 (by decide)) (kx_1 k_t).2 (by decide) rfl rfl rfl (jval_ref rfl k41.1) ?_
              refine jr.iload_n rfl rfl ?_
              refine jr.iload rfl rfl ?_
              refine jr.iload rfl rfl ?_
              refine jr.iadd rfl ?_
              refine jr.iw (j_w (q_ + n_)) (j_w_eq _) ?_
              have b42 : -2147483648 ≤ j_w (q_ + n_) ∧ j_w (q_ + n_) ≤ 2147483647 := jb_any _
              refine jr.iast (i := z) (x := (j_w (q_ + n_))) rfl (Nat.lt_trans (kx_5 k41.2).1 (by decide)) (kx_5 k41.2).2 (by decide) (by omega) (by omega) ?_
              refine jr.aload_n rfl rfl ?_
              have k43 := kf_1_8 k_t
              refine jr.getf (i := 8) (v := .ref (t + 4)) rfl rfl (Nat.lt_trans (kx_1 k_t).1 (by decide)) (kx_1 k_t).2 (by decide) rfl rfl rfl (jval_ref rfl k43.1) ?_
              refine jr.iload_n rfl rfl ?_
              refine jr.iconst rfl ?_
              refine jr.zast (i := z) (x := 1) rfl (Nat.lt_trans (kx_4 k43.2).1 (by decide)) (kx_4 k43.2).2 (by decide) (by omega) (by omega) (j_zn (by omega)) ?_
              refine jr.aload_n rfl rfl ?_
              have k44 := kf_1_9 k_t
              refine jr.getf (i := 9) (v := .ref (t + 5)) rfl rfl (Nat.lt_trans (kx_1 k_t).1 (by decide)) (kx_1 k_t).2 (by decide) rfl rfl rfl (jval_ref rfl k44.1) ?_
              refine jr.iload_n rfl rfl ?_
              refine jr.aload_n rfl rfl ?_
              refine jr.iload_n rfl rfl ?_
              refine jr.bipush rfl (by decide) ?_
              refine jr_v rfl rfl (Or.inl rfl) rfl rfl (by decide) rfl ⟨rfl, Nat.le_of_ble_eq_true rfl, Nat.le_of_ble_eq_true rfl⟩ rfl (jc.deep (c_Headers_valueOf_x (CI.u (CI.u (CI.u hC_M (i := 5) k_t (show (-2147483648 : Int) ≤ _ ∧ _ ≤ (2147483647 : Int) from by omega) rfl) (i := z) k41.2 (show (-2147483648 : Int) ≤ _ ∧ _ ≤ (2147483647 : Int) from by omega) rfl) (i := z) k43.2 (show (0 : Int) ≤ _ ∧ _ ≤ (1 : Int) from by omega) rfl) (show kd 3 = 18 from rfl) (by omega) (by omega) ((ju_c _ _ (kd_ne (by rw [(show kd 3 = 18 from rfl), k43.2]; decide))).trans ((ju_c _ _ (kd_ne (by rw [(show kd 3 = 18 from rfl), k41.2]; decide))).trans ((ju_i _ _ (by decide)).trans g_C))) (HS.fr hy0 (show kd 3 = 18 from rfl) hC_M (FR.o (FR.o (FR.o (FR.rfl [(1, 5), (4, 1000), (5, 1000)] M) k_t rfl) k41.2 rfl) k43.2 rfl) rfl) (fun r45 z45 w45_0 => ?_)) (by decide))
              have hv45 : 0 ≤ r45 ∧ r45 ≤ 65535 := (by have h9 := (st_v hy3).2.2; rw [← w45_0] at h9; exact h9)
              refine jr.l2i rfl ?_
              refine jr.iast (i := z) (x := r45) rfl (Nat.lt_trans (kx_8 k44.2).1 (by decide)) (kx_8 k44.2).2 (by decide) (by omega) (by omega) ?_
              refine jr.iconst rfl ?_
              exact jr.ireturn rfl rfl rfl (q _ _ (CI.u (CI.u (CI.u (CI.u hC_M (i := 5) k_t (show (-2147483648 : Int) ≤ _ ∧ _ ≤ (2147483647 : Int) from by omega) rfl) (i := z) k41.2 (show (-2147483648 : Int) ≤ _ ∧ _ ≤ (2147483647 : Int) from by omega) rfl) (i := z) k43.2 (show (0 : Int) ≤ _ ∧ _ ≤ (1 : Int) from by omega) rfl) (i := z) k44.2 (show (-2147483648 : Int) ≤ _ ∧ _ ≤ (2147483647 : Int) from by omega) rfl) (FR.o (FR.o (FR.o (FR.o ht_M k_t rfl) k41.2 rfl) k43.2 rfl) k44.2 rfl) (by omega) (by obtain ⟨hs, hb, hq, hn⟩ := hy1; have hT := hy2; exact Or.inr (Or.inr ⟨by rw [hs, hb]; omega, (fun u => by rw [hs] at u; omega), rfl, M, Or.inr ⟨(fun u => by rw [hs, ← hT, e38] at u; omega), hT⟩, by rw [hs, hb, hq, hn, ← w45_0]; rw [tsM_p (by rw [e40]; first | (left; omega) | (right; omega))]⟩)))
            · have sx172 : (1 : Int) ≤ v40 := by omega
              refine jr.iload rfl rfl ?_
              refine jr.iload rfl rfl ?_
              refine jr.iadd rfl ?_
              refine jr.iw (j_w (q_ + n_)) (j_w_eq _) ?_
              have b46 : -2147483648 ≤ j_w (q_ + n_) ∧ j_w (q_ + n_) ≤ 2147483647 := jb_any _
              refine jr.aload_n rfl rfl ?_
              have k47 := kf_1_7 k_t
              refine jr.getf (i := 7) (v := .ref (t + 3)) rfl rfl (Nat.lt_trans (kx_1 k_t).1 (by decide)) (kx_1 k_t).2 (by decide) rfl rfl rfl (jval_ref rfl k47.1) ?_
              refine jr.iload_n rfl rfl ?_
              obtain ⟨v48, e48⟩ : ∃ z_, M ((t + 3)) z = z_ := ⟨_, rfl⟩
              have b48 : (-2147483648) ≤ v48 ∧ v48 ≤ 2147483647 := by rw [← e48]; exact (CI.r hC_M k47.2 (by decide) z)
              refine jr.iald (i := z) (x := v48) rfl (Nat.lt_trans (kx_5 k47.2).1 (by decide)) (kx_5 k47.2).2 (by decide) (by omega) (by omega) ((ju_c _ _ (kd_ne (by rw [k47.2, k_t]; decide))).trans e48) ?_
              refine jr.isub rfl ?_
              refine jr.iw (j_w ((j_w (q_ + n_)) - v48)) (j_w_eq _) ?_
              have b49 : -2147483648 ≤ j_w ((j_w (q_ + n_)) - v48) ∧ j_w ((j_w (q_ + n_)) - v48) ≤ 2147483647 := jb_any _
              refine jr.if_le rfl rfl (by omega) (fun h187 => ?_) (fun h187 => ?_)
              · refine jr.aload_n rfl rfl ?_
                have k50 := kf_1_9 k_t
                refine jr.getf (i := 9) (v := .ref (t + 5)) rfl rfl (Nat.lt_trans (kx_1 k_t).1 (by decide)) (kx_1 k_t).2 (by decide) rfl rfl rfl (jval_ref rfl k50.1) ?_
                refine jr.iload_n rfl rfl ?_
                refine jr.aload_n rfl rfl ?_
                refine jr.iload_n rfl rfl ?_
                refine jr.bipush rfl (by decide) ?_
                refine jr_v rfl rfl (Or.inl rfl) rfl rfl (by decide) rfl ⟨rfl, Nat.le_of_ble_eq_true rfl, Nat.le_of_ble_eq_true rfl⟩ rfl (jc.deep (c_Headers_valueOf_x (CI.u hC_M (i := 5) k_t (show (-2147483648 : Int) ≤ _ ∧ _ ≤ (2147483647 : Int) from by omega) rfl) (show kd 3 = 18 from rfl) (by omega) (by omega) ((ju_i _ _ (by decide)).trans g_C) (HS.fr hy0 (show kd 3 = 18 from rfl) hC_M (FR.o (FR.rfl [(1, 5)] M) k_t rfl) rfl) (fun r51 z51 w51_0 => ?_)) (by decide))
                have hv51 : 0 ≤ r51 ∧ r51 ≤ 65535 := (by have h9 := (st_v hy3).2.2; rw [← w51_0] at h9; exact h9)
                refine jr.l2i rfl ?_
                refine jr.iast (i := z) (x := r51) rfl (Nat.lt_trans (kx_8 k50.2).1 (by decide)) (kx_8 k50.2).2 (by decide) (by omega) (by omega) ?_
                refine jr.iconst rfl ?_
                exact jr.ireturn rfl rfl rfl (q _ _ (CI.u (CI.u hC_M (i := 5) k_t (show (-2147483648 : Int) ≤ _ ∧ _ ≤ (2147483647 : Int) from by omega) rfl) (i := z) k50.2 (show (-2147483648 : Int) ≤ _ ∧ _ ≤ (2147483647 : Int) from by omega) rfl) (FR.o (FR.o ht_M k_t rfl) k50.2 rfl) (by omega) (by obtain ⟨hs, hb, hq, hn⟩ := hy1; have hT := hy2; exact Or.inr (Or.inr ⟨by rw [hs, hb]; omega, (fun u => by rw [hs] at u; omega), rfl, M, Or.inr ⟨(fun u => by rw [hs, ← hT, e38] at u; omega), hT⟩, by rw [hs, hb, hq, hn, ← w51_0]; rw [tsM_n (by rw [e40, e48]; omega)]⟩)))
              · refine jr.aload_n rfl rfl ?_
                have k52 := kf_1_7 k_t
                refine jr.getf (i := 7) (v := .ref (t + 3)) rfl rfl (Nat.lt_trans (kx_1 k_t).1 (by decide)) (kx_1 k_t).2 (by decide) rfl rfl rfl (jval_ref rfl k52.1) ?_
                refine jr.iload_n rfl rfl ?_
                refine jr.iload rfl rfl ?_
                refine jr.iload rfl rfl ?_
                refine jr.iadd rfl ?_
                refine jr.iw (j_w (q_ + n_)) (j_w_eq _) ?_
                have b53 : -2147483648 ≤ j_w (q_ + n_) ∧ j_w (q_ + n_) ≤ 2147483647 := jb_any _
                refine jr.iast (i := z) (x := (j_w (q_ + n_))) rfl (Nat.lt_trans (kx_5 k52.2).1 (by decide)) (kx_5 k52.2).2 (by decide) (by omega) (by omega) ?_
                refine jr.aload_n rfl rfl ?_
                have k54 := kf_1_8 k_t
                refine jr.getf (i := 8) (v := .ref (t + 4)) rfl rfl (Nat.lt_trans (kx_1 k_t).1 (by decide)) (kx_1 k_t).2 (by decide) rfl rfl rfl (jval_ref rfl k54.1) ?_
                refine jr.iload_n rfl rfl ?_
                refine jr.iconst rfl ?_
                refine jr.zast (i := z) (x := 1) rfl (Nat.lt_trans (kx_4 k54.2).1 (by decide)) (kx_4 k54.2).2 (by decide) (by omega) (by omega) (j_zn (by omega)) ?_
                refine jr.aload_n rfl rfl ?_
                have k55 := kf_1_9 k_t
                refine jr.getf (i := 9) (v := .ref (t + 5)) rfl rfl (Nat.lt_trans (kx_1 k_t).1 (by decide)) (kx_1 k_t).2 (by decide) rfl rfl rfl (jval_ref rfl k55.1) ?_
                refine jr.iload_n rfl rfl ?_
                refine jr.aload_n rfl rfl ?_
                refine jr.iload_n rfl rfl ?_
                refine jr.bipush rfl (by decide) ?_
                refine jr_v rfl rfl (Or.inl rfl) rfl rfl (by decide) rfl ⟨rfl, Nat.le_of_ble_eq_true rfl, Nat.le_of_ble_eq_true rfl⟩ rfl (jc.deep (c_Headers_valueOf_x (CI.u (CI.u (CI.u hC_M (i := 5) k_t (show (-2147483648 : Int) ≤ _ ∧ _ ≤ (2147483647 : Int) from by omega) rfl) (i := z) k52.2 (show (-2147483648 : Int) ≤ _ ∧ _ ≤ (2147483647 : Int) from by omega) rfl) (i := z) k54.2 (show (0 : Int) ≤ _ ∧ _ ≤ (1 : Int) from by omega) rfl) (show kd 3 = 18 from rfl) (by omega) (by omega) ((ju_c _ _ (kd_ne (by rw [(show kd 3 = 18 from rfl), k54.2]; decide))).trans ((ju_c _ _ (kd_ne (by rw [(show kd 3 = 18 from rfl), k52.2]; decide))).trans ((ju_i _ _ (by decide)).trans g_C))) (HS.fr hy0 (show kd 3 = 18 from rfl) hC_M (FR.o (FR.o (FR.o (FR.rfl [(1, 5), (4, 1000), (5, 1000)] M) k_t rfl) k52.2 rfl) k54.2 rfl) rfl) (fun r56 z56 w56_0 => ?_)) (by decide))
                have hv56 : 0 ≤ r56 ∧ r56 ≤ 65535 := (by have h9 := (st_v hy3).2.2; rw [← w56_0] at h9; exact h9)
                refine jr.l2i rfl ?_
                refine jr.iast (i := z) (x := r56) rfl (Nat.lt_trans (kx_8 k55.2).1 (by decide)) (kx_8 k55.2).2 (by decide) (by omega) (by omega) ?_
                refine jr.iconst rfl ?_
                exact jr.ireturn rfl rfl rfl (q _ _ (CI.u (CI.u (CI.u (CI.u hC_M (i := 5) k_t (show (-2147483648 : Int) ≤ _ ∧ _ ≤ (2147483647 : Int) from by omega) rfl) (i := z) k52.2 (show (-2147483648 : Int) ≤ _ ∧ _ ≤ (2147483647 : Int) from by omega) rfl) (i := z) k54.2 (show (0 : Int) ≤ _ ∧ _ ≤ (1 : Int) from by omega) rfl) (i := z) k55.2 (show (-2147483648 : Int) ≤ _ ∧ _ ≤ (2147483647 : Int) from by omega) rfl) (FR.o (FR.o (FR.o (FR.o ht_M k_t rfl) k52.2 rfl) k54.2 rfl) k55.2 rfl) (by omega) (by obtain ⟨hs, hb, hq, hn⟩ := hy1; have hT := hy2; exact Or.inr (Or.inr ⟨by rw [hs, hb]; omega, (fun u => by rw [hs] at u; omega), rfl, M, Or.inr ⟨(fun u => by rw [hs, ← hT, e38] at u; omega), hT⟩, by rw [hs, hb, hq, hn, ← w56_0]; rw [tsM_p (by rw [e40, e48]; first | (left; omega) | (right; omega))]⟩)))
          · refine jr.aload_n rfl rfl ?_
            refine jr_v rfl rfl (Or.inl rfl) rfl rfl (Nat.lt_trans (kx_1 k_t).1 (by decide)) (kx_1 k_t).2 ⟨rfl, Nat.le_of_ble_eq_true rfl, Nat.le_of_ble_eq_true rfl⟩ rfl (jc.deep (c_Flow_forget_x hC_M (FR.rfl _ M) k_t rfl (fun M57 hC_M57 hf_M57 w57_0 => ?_)) (by decide))
            have ht_M57 : FR W_c_Flow_takeStream_x T M57 := FR.t ht_M hf_M57 (kw_sub rfl)
            refine jr.aload_n rfl rfl ?_
            refine jr.iload rfl rfl ?_
            refine jr.putf (i := 5) (x := b_) rfl rfl (Nat.lt_trans (kx_1 k_t).1 (by decide)) (kx_1 k_t).2 (by decide) rfl rfl rfl rfl rfl ?_
            refine jr.aload_n rfl rfl ?_
            have k58 := kf_1_8 k_t
            refine jr.getf (i := 8) (v := .ref (t + 4)) rfl rfl (Nat.lt_trans (kx_1 k_t).1 (by decide)) (kx_1 k_t).2 (by decide) rfl rfl rfl (jval_ref rfl k58.1) ?_
            refine jr.iload_n rfl rfl ?_
            obtain ⟨v59, e59⟩ : ∃ z_, M57 ((t + 4)) z = z_ := ⟨_, rfl⟩
            have b59 : 0 ≤ v59 ∧ v59 ≤ 1 := by rw [← e59]; exact (CI.r hC_M57 k58.2 (by decide) z)
            refine jr.zald (i := z) (x := v59) rfl (Nat.lt_trans (kx_4 k58.2).1 (by decide)) (kx_4 k58.2).2 (by decide) (by omega) (by omega) ((ju_c _ _ (kd_ne (by rw [k58.2, k_t]; decide))).trans e59) ?_
            refine jr.if_eq rfl rfl (by omega) (fun h172 => ?_) (fun h172 => ?_)
            · refine jr.aload_n rfl rfl ?_
              have k60 := kf_1_7 k_t
              refine jr.getf (i := 7) (v := .ref (t + 3)) rfl rfl (Nat.lt_trans (kx_1 k_t).1 (by decide)) (kx_1 k_t).2 (by decide) rfl rfl rfl (jval_ref rfl k60.1) ?_
              refine jr.iload_n rfl rfl ?_
              refine jr.iload rfl rfl ?_
              refine jr.iload rfl rfl ?_
              refine jr.iadd rfl ?_
              refine jr.iw (j_w (q_ + n_)) (j_w_eq _) ?_
              have b61 : -2147483648 ≤ j_w (q_ + n_) ∧ j_w (q_ + n_) ≤ 2147483647 := jb_any _
              refine jr.iast (i := z) (x := (j_w (q_ + n_))) rfl (Nat.lt_trans (kx_5 k60.2).1 (by decide)) (kx_5 k60.2).2 (by decide) (by omega) (by omega) ?_
              refine jr.aload_n rfl rfl ?_
              have k62 := kf_1_8 k_t
              refine jr.getf (i := 8) (v := .ref (t + 4)) rfl rfl (Nat.lt_trans (kx_1 k_t).1 (by decide)) (kx_1 k_t).2 (by decide) rfl rfl rfl (jval_ref rfl k62.1) ?_
              refine jr.iload_n rfl rfl ?_
              refine jr.iconst rfl ?_
              refine jr.zast (i := z) (x := 1) rfl (Nat.lt_trans (kx_4 k62.2).1 (by decide)) (kx_4 k62.2).2 (by decide) (by omega) (by omega) (j_zn (by omega)) ?_
              refine jr.aload_n rfl rfl ?_
              have k63 := kf_1_9 k_t
              refine jr.getf (i := 9) (v := .ref (t + 5)) rfl rfl (Nat.lt_trans (kx_1 k_t).1 (by decide)) (kx_1 k_t).2 (by decide) rfl rfl rfl (jval_ref rfl k63.1) ?_
              refine jr.iload_n rfl rfl ?_
              refine jr.aload_n rfl rfl ?_
              refine jr.iload_n rfl rfl ?_
              refine jr.bipush rfl (by decide) ?_
              have e65 : M57 3 3 = C := (hf_M57.g (show kd 3 = 18 from rfl) rfl).trans g_C
              refine jr_v rfl rfl (Or.inl rfl) rfl rfl (by decide) rfl ⟨rfl, Nat.le_of_ble_eq_true rfl, Nat.le_of_ble_eq_true rfl⟩ rfl (jc.deep (c_Headers_valueOf_x (CI.u (CI.u (CI.u hC_M57 (i := 5) k_t (show (-2147483648 : Int) ≤ _ ∧ _ ≤ (2147483647 : Int) from by omega) rfl) (i := z) k60.2 (show (-2147483648 : Int) ≤ _ ∧ _ ≤ (2147483647 : Int) from by omega) rfl) (i := z) k62.2 (show (0 : Int) ≤ _ ∧ _ ≤ (1 : Int) from by omega) rfl) (show kd 3 = 18 from rfl) (by omega) (by omega) ((ju_c _ _ (kd_ne (by rw [(show kd 3 = 18 from rfl), k62.2]; decide))).trans ((ju_c _ _ (kd_ne (by rw [(show kd 3 = 18 from rfl), k60.2]; decide))).trans ((ju_i _ _ (by decide)).trans e65))) (HS.fr (HS.fr hy0 (show kd 3 = 18 from rfl) hC_M hf_M57 rfl) (show kd 3 = 18 from rfl) hC_M57 (FR.o (FR.o (FR.o (FR.rfl [(1, 5), (4, 1000), (5, 1000)] M57) k_t rfl) k60.2 rfl) k62.2 rfl) rfl) (fun r64 z64 w64_0 => ?_)) (by decide))
              have hv64 : 0 ≤ r64 ∧ r64 ≤ 65535 := (by have h9 := (st_v hy3).2.2; rw [← w64_0] at h9; exact h9)
              refine jr.l2i rfl ?_
              refine jr.iast (i := z) (x := r64) rfl (Nat.lt_trans (kx_8 k63.2).1 (by decide)) (kx_8 k63.2).2 (by decide) (by omega) (by omega) ?_
              refine jr.iconst rfl ?_
              exact jr.ireturn rfl rfl rfl (q _ _ (CI.u (CI.u (CI.u (CI.u hC_M57 (i := 5) k_t (show (-2147483648 : Int) ≤ _ ∧ _ ≤ (2147483647 : Int) from by omega) rfl) (i := z) k60.2 (show (-2147483648 : Int) ≤ _ ∧ _ ≤ (2147483647 : Int) from by omega) rfl) (i := z) k62.2 (show (0 : Int) ≤ _ ∧ _ ≤ (1 : Int) from by omega) rfl) (i := z) k63.2 (show (-2147483648 : Int) ≤ _ ∧ _ ≤ (2147483647 : Int) from by omega) rfl) (FR.o (FR.o (FR.o (FR.o ht_M57 k_t rfl) k60.2 rfl) k62.2 rfl) k63.2 rfl) (by omega) (by obtain ⟨hs, hb, hq, hn⟩ := hy1; have hT := hy2; exact Or.inr (Or.inr ⟨by rw [hs, hb]; omega, (fun u => by rw [hs] at u; omega), rfl, M57, Or.inl ⟨⟨by rw [hs]; omega, by rw [← hT, e38]; omega⟩, by rw [← hT]; exact w57_0⟩, by rw [hs, hb, hq, hn, ← w64_0]; rw [tsM_p (by rw [e59]; first | (left; omega) | (right; omega))]⟩)))
            · have sx172 : (1 : Int) ≤ v59 := by omega
              refine jr.iload rfl rfl ?_
              refine jr.iload rfl rfl ?_
              refine jr.iadd rfl ?_
              refine jr.iw (j_w (q_ + n_)) (j_w_eq _) ?_
              have b66 : -2147483648 ≤ j_w (q_ + n_) ∧ j_w (q_ + n_) ≤ 2147483647 := jb_any _
              refine jr.aload_n rfl rfl ?_
              have k67 := kf_1_7 k_t
              refine jr.getf (i := 7) (v := .ref (t + 3)) rfl rfl (Nat.lt_trans (kx_1 k_t).1 (by decide)) (kx_1 k_t).2 (by decide) rfl rfl rfl (jval_ref rfl k67.1) ?_
              refine jr.iload_n rfl rfl ?_
              obtain ⟨v68, e68⟩ : ∃ z_, M57 ((t + 3)) z = z_ := ⟨_, rfl⟩
              have b68 : (-2147483648) ≤ v68 ∧ v68 ≤ 2147483647 := by rw [← e68]; exact (CI.r hC_M57 k67.2 (by decide) z)
              refine jr.iald (i := z) (x := v68) rfl (Nat.lt_trans (kx_5 k67.2).1 (by decide)) (kx_5 k67.2).2 (by decide) (by omega) (by omega) ((ju_c _ _ (kd_ne (by rw [k67.2, k_t]; decide))).trans e68) ?_
              refine jr.isub rfl ?_
              refine jr.iw (j_w ((j_w (q_ + n_)) - v68)) (j_w_eq _) ?_
              have b69 : -2147483648 ≤ j_w ((j_w (q_ + n_)) - v68) ∧ j_w ((j_w (q_ + n_)) - v68) ≤ 2147483647 := jb_any _
              refine jr.if_le rfl rfl (by omega) (fun h187 => ?_) (fun h187 => ?_)
              · refine jr.aload_n rfl rfl ?_
                have k70 := kf_1_9 k_t
                refine jr.getf (i := 9) (v := .ref (t + 5)) rfl rfl (Nat.lt_trans (kx_1 k_t).1 (by decide)) (kx_1 k_t).2 (by decide) rfl rfl rfl (jval_ref rfl k70.1) ?_
                refine jr.iload_n rfl rfl ?_
                refine jr.aload_n rfl rfl ?_
                refine jr.iload_n rfl rfl ?_
                refine jr.bipush rfl (by decide) ?_
                have e72 : M57 3 3 = C := (hf_M57.g (show kd 3 = 18 from rfl) rfl).trans g_C
                refine jr_v rfl rfl (Or.inl rfl) rfl rfl (by decide) rfl ⟨rfl, Nat.le_of_ble_eq_true rfl, Nat.le_of_ble_eq_true rfl⟩ rfl (jc.deep (c_Headers_valueOf_x (CI.u hC_M57 (i := 5) k_t (show (-2147483648 : Int) ≤ _ ∧ _ ≤ (2147483647 : Int) from by omega) rfl) (show kd 3 = 18 from rfl) (by omega) (by omega) ((ju_i _ _ (by decide)).trans e72) (HS.fr (HS.fr hy0 (show kd 3 = 18 from rfl) hC_M hf_M57 rfl) (show kd 3 = 18 from rfl) hC_M57 (FR.o (FR.rfl [(1, 5)] M57) k_t rfl) rfl) (fun r71 z71 w71_0 => ?_)) (by decide))
                have hv71 : 0 ≤ r71 ∧ r71 ≤ 65535 := (by have h9 := (st_v hy3).2.2; rw [← w71_0] at h9; exact h9)
                refine jr.l2i rfl ?_
                refine jr.iast (i := z) (x := r71) rfl (Nat.lt_trans (kx_8 k70.2).1 (by decide)) (kx_8 k70.2).2 (by decide) (by omega) (by omega) ?_
                refine jr.iconst rfl ?_
                exact jr.ireturn rfl rfl rfl (q _ _ (CI.u (CI.u hC_M57 (i := 5) k_t (show (-2147483648 : Int) ≤ _ ∧ _ ≤ (2147483647 : Int) from by omega) rfl) (i := z) k70.2 (show (-2147483648 : Int) ≤ _ ∧ _ ≤ (2147483647 : Int) from by omega) rfl) (FR.o (FR.o ht_M57 k_t rfl) k70.2 rfl) (by omega) (by obtain ⟨hs, hb, hq, hn⟩ := hy1; have hT := hy2; exact Or.inr (Or.inr ⟨by rw [hs, hb]; omega, (fun u => by rw [hs] at u; omega), rfl, M57, Or.inl ⟨⟨by rw [hs]; omega, by rw [← hT, e38]; omega⟩, by rw [← hT]; exact w57_0⟩, by rw [hs, hb, hq, hn, ← w71_0]; rw [tsM_n (by rw [e59, e68]; omega)]⟩)))
              · refine jr.aload_n rfl rfl ?_
                have k73 := kf_1_7 k_t
                refine jr.getf (i := 7) (v := .ref (t + 3)) rfl rfl (Nat.lt_trans (kx_1 k_t).1 (by decide)) (kx_1 k_t).2 (by decide) rfl rfl rfl (jval_ref rfl k73.1) ?_
                refine jr.iload_n rfl rfl ?_
                refine jr.iload rfl rfl ?_
                refine jr.iload rfl rfl ?_
                refine jr.iadd rfl ?_
                refine jr.iw (j_w (q_ + n_)) (j_w_eq _) ?_
                have b74 : -2147483648 ≤ j_w (q_ + n_) ∧ j_w (q_ + n_) ≤ 2147483647 := jb_any _
                refine jr.iast (i := z) (x := (j_w (q_ + n_))) rfl (Nat.lt_trans (kx_5 k73.2).1 (by decide)) (kx_5 k73.2).2 (by decide) (by omega) (by omega) ?_
                refine jr.aload_n rfl rfl ?_
                have k75 := kf_1_8 k_t
                refine jr.getf (i := 8) (v := .ref (t + 4)) rfl rfl (Nat.lt_trans (kx_1 k_t).1 (by decide)) (kx_1 k_t).2 (by decide) rfl rfl rfl (jval_ref rfl k75.1) ?_
                refine jr.iload_n rfl rfl ?_
                refine jr.iconst rfl ?_
                refine jr.zast (i := z) (x := 1) rfl (Nat.lt_trans (kx_4 k75.2).1 (by decide)) (kx_4 k75.2).2 (by decide) (by omega) (by omega) (j_zn (by omega)) ?_
                refine jr.aload_n rfl rfl ?_
                have k76 := kf_1_9 k_t
                refine jr.getf (i := 9) (v := .ref (t + 5)) rfl rfl (Nat.lt_trans (kx_1 k_t).1 (by decide)) (kx_1 k_t).2 (by decide) rfl rfl rfl (jval_ref rfl k76.1) ?_
                refine jr.iload_n rfl rfl ?_
                refine jr.aload_n rfl rfl ?_
                refine jr.iload_n rfl rfl ?_
                refine jr.bipush rfl (by decide) ?_
                have e78 : M57 3 3 = C := (hf_M57.g (show kd 3 = 18 from rfl) rfl).trans g_C
                refine jr_v rfl rfl (Or.inl rfl) rfl rfl (by decide) rfl ⟨rfl, Nat.le_of_ble_eq_true rfl, Nat.le_of_ble_eq_true rfl⟩ rfl (jc.deep (c_Headers_valueOf_x (CI.u (CI.u (CI.u hC_M57 (i := 5) k_t (show (-2147483648 : Int) ≤ _ ∧ _ ≤ (2147483647 : Int) from by omega) rfl) (i := z) k73.2 (show (-2147483648 : Int) ≤ _ ∧ _ ≤ (2147483647 : Int) from by omega) rfl) (i := z) k75.2 (show (0 : Int) ≤ _ ∧ _ ≤ (1 : Int) from by omega) rfl) (show kd 3 = 18 from rfl) (by omega) (by omega) ((ju_c _ _ (kd_ne (by rw [(show kd 3 = 18 from rfl), k75.2]; decide))).trans ((ju_c _ _ (kd_ne (by rw [(show kd 3 = 18 from rfl), k73.2]; decide))).trans ((ju_i _ _ (by decide)).trans e78))) (HS.fr (HS.fr hy0 (show kd 3 = 18 from rfl) hC_M hf_M57 rfl) (show kd 3 = 18 from rfl) hC_M57 (FR.o (FR.o (FR.o (FR.rfl [(1, 5), (4, 1000), (5, 1000)] M57) k_t rfl) k73.2 rfl) k75.2 rfl) rfl) (fun r77 z77 w77_0 => ?_)) (by decide))
                have hv77 : 0 ≤ r77 ∧ r77 ≤ 65535 := (by have h9 := (st_v hy3).2.2; rw [← w77_0] at h9; exact h9)
                refine jr.l2i rfl ?_
                refine jr.iast (i := z) (x := r77) rfl (Nat.lt_trans (kx_8 k76.2).1 (by decide)) (kx_8 k76.2).2 (by decide) (by omega) (by omega) ?_
                refine jr.iconst rfl ?_
                exact jr.ireturn rfl rfl rfl (q _ _ (CI.u (CI.u (CI.u (CI.u hC_M57 (i := 5) k_t (show (-2147483648 : Int) ≤ _ ∧ _ ≤ (2147483647 : Int) from by omega) rfl) (i := z) k73.2 (show (-2147483648 : Int) ≤ _ ∧ _ ≤ (2147483647 : Int) from by omega) rfl) (i := z) k75.2 (show (0 : Int) ≤ _ ∧ _ ≤ (1 : Int) from by omega) rfl) (i := z) k76.2 (show (-2147483648 : Int) ≤ _ ∧ _ ≤ (2147483647 : Int) from by omega) rfl) (FR.o (FR.o (FR.o (FR.o ht_M57 k_t rfl) k73.2 rfl) k75.2 rfl) k76.2 rfl) (by omega) (by obtain ⟨hs, hb, hq, hn⟩ := hy1; have hT := hy2; exact Or.inr (Or.inr ⟨by rw [hs, hb]; omega, (fun u => by rw [hs] at u; omega), rfl, M57, Or.inl ⟨⟨by rw [hs]; omega, by rw [← hT, e38]; omega⟩, by rw [← hT]; exact w57_0⟩, by rw [hs, hb, hq, hn, ← w77_0]; rw [tsM_p (by rw [e59, e68]; first | (left; omega) | (right; omega))]⟩)))
      · refine jr.aload_n rfl rfl ?_
        refine jr.iload_n rfl rfl ?_
        refine jr.iload rfl rfl ?_
        refine jr.iload rfl rfl ?_
        refine jr_v rfl rfl (Or.inl rfl) rfl rfl (Nat.lt_trans (kx_1 k_t).1 (by decide)) (kx_1 k_t).2 ⟨rfl, Nat.le_of_ble_eq_true rfl, Nat.le_of_ble_eq_true rfl⟩ rfl (jc.deep (c_Flow_isOut_x hC_M k_t (by omega) (by omega) (by omega) (fun r79 z79 w79_0 => ?_)) (by decide))
        skip
        refine jr.if_eq rfl rfl (by omega) (fun h136 => ?_) (fun h136 => ?_)
        · refine jr.iload rfl rfl ?_
          refine jr.if_ne rfl rfl (by omega) (fun h144 => ?_) (fun h144 => ?_)
          · refine jr.aload_n rfl rfl ?_
            refine jr.iload rfl rfl ?_
            refine jr.putf (i := 5) (x := b_) rfl rfl (Nat.lt_trans (kx_1 k_t).1 (by decide)) (kx_1 k_t).2 (by decide) rfl rfl rfl rfl rfl ?_
            refine jr.aload_n rfl rfl ?_
            have k80 := kf_1_8 k_t
            refine jr.getf (i := 8) (v := .ref (t + 4)) rfl rfl (Nat.lt_trans (kx_1 k_t).1 (by decide)) (kx_1 k_t).2 (by decide) rfl rfl rfl (jval_ref rfl k80.1) ?_
            refine jr.iload_n rfl rfl ?_
            obtain ⟨v81, e81⟩ : ∃ z_, M ((t + 4)) z = z_ := ⟨_, rfl⟩
            have b81 : 0 ≤ v81 ∧ v81 ≤ 1 := by rw [← e81]; exact (CI.r hC_M k80.2 (by decide) z)
            refine jr.zald (i := z) (x := v81) rfl (Nat.lt_trans (kx_4 k80.2).1 (by decide)) (kx_4 k80.2).2 (by decide) (by omega) (by omega) ((ju_c _ _ (kd_ne (by rw [k80.2, k_t]; decide))).trans e81) ?_
            refine jr.if_eq rfl rfl (by omega) (fun h172 => ?_) (fun h172 => ?_)
            · refine jr.aload_n rfl rfl ?_
              have k82 := kf_1_7 k_t
              refine jr.getf (i := 7) (v := .ref (t + 3)) rfl rfl (Nat.lt_trans (kx_1 k_t).1 (by decide)) (kx_1 k_t).2 (by decide) rfl rfl rfl (jval_ref rfl k82.1) ?_
              refine jr.iload_n rfl rfl ?_
              refine jr.iload rfl rfl ?_
              refine jr.iload rfl rfl ?_
              refine jr.iadd rfl ?_
              refine jr.iw (j_w (q_ + n_)) (j_w_eq _) ?_
              have b83 : -2147483648 ≤ j_w (q_ + n_) ∧ j_w (q_ + n_) ≤ 2147483647 := jb_any _
              refine jr.iast (i := z) (x := (j_w (q_ + n_))) rfl (Nat.lt_trans (kx_5 k82.2).1 (by decide)) (kx_5 k82.2).2 (by decide) (by omega) (by omega) ?_
              refine jr.aload_n rfl rfl ?_
              have k84 := kf_1_8 k_t
              refine jr.getf (i := 8) (v := .ref (t + 4)) rfl rfl (Nat.lt_trans (kx_1 k_t).1 (by decide)) (kx_1 k_t).2 (by decide) rfl rfl rfl (jval_ref rfl k84.1) ?_
              refine jr.iload_n rfl rfl ?_
              refine jr.iconst rfl ?_
              refine jr.zast (i := z) (x := 1) rfl (Nat.lt_trans (kx_4 k84.2).1 (by decide)) (kx_4 k84.2).2 (by decide) (by omega) (by omega) (j_zn (by omega)) ?_
              refine jr.aload_n rfl rfl ?_
              have k85 := kf_1_9 k_t
              refine jr.getf (i := 9) (v := .ref (t + 5)) rfl rfl (Nat.lt_trans (kx_1 k_t).1 (by decide)) (kx_1 k_t).2 (by decide) rfl rfl rfl (jval_ref rfl k85.1) ?_
              refine jr.iload_n rfl rfl ?_
              refine jr.aload_n rfl rfl ?_
              refine jr.iload_n rfl rfl ?_
              refine jr.bipush rfl (by decide) ?_
              refine jr_v rfl rfl (Or.inl rfl) rfl rfl (by decide) rfl ⟨rfl, Nat.le_of_ble_eq_true rfl, Nat.le_of_ble_eq_true rfl⟩ rfl (jc.deep (c_Headers_valueOf_x (CI.u (CI.u (CI.u hC_M (i := 5) k_t (show (-2147483648 : Int) ≤ _ ∧ _ ≤ (2147483647 : Int) from by omega) rfl) (i := z) k82.2 (show (-2147483648 : Int) ≤ _ ∧ _ ≤ (2147483647 : Int) from by omega) rfl) (i := z) k84.2 (show (0 : Int) ≤ _ ∧ _ ≤ (1 : Int) from by omega) rfl) (show kd 3 = 18 from rfl) (by omega) (by omega) ((ju_c _ _ (kd_ne (by rw [(show kd 3 = 18 from rfl), k84.2]; decide))).trans ((ju_c _ _ (kd_ne (by rw [(show kd 3 = 18 from rfl), k82.2]; decide))).trans ((ju_i _ _ (by decide)).trans g_C))) (HS.fr hy0 (show kd 3 = 18 from rfl) hC_M (FR.o (FR.o (FR.o (FR.rfl [(1, 5), (4, 1000), (5, 1000)] M) k_t rfl) k82.2 rfl) k84.2 rfl) rfl) (fun r86 z86 w86_0 => ?_)) (by decide))
              have hv86 : 0 ≤ r86 ∧ r86 ≤ 65535 := (by have h9 := (st_v hy3).2.2; rw [← w86_0] at h9; exact h9)
              refine jr.l2i rfl ?_
              refine jr.iast (i := z) (x := r86) rfl (Nat.lt_trans (kx_8 k85.2).1 (by decide)) (kx_8 k85.2).2 (by decide) (by omega) (by omega) ?_
              refine jr.iconst rfl ?_
              exact jr.ireturn rfl rfl rfl (q _ _ (CI.u (CI.u (CI.u (CI.u hC_M (i := 5) k_t (show (-2147483648 : Int) ≤ _ ∧ _ ≤ (2147483647 : Int) from by omega) rfl) (i := z) k82.2 (show (-2147483648 : Int) ≤ _ ∧ _ ≤ (2147483647 : Int) from by omega) rfl) (i := z) k84.2 (show (0 : Int) ≤ _ ∧ _ ≤ (1 : Int) from by omega) rfl) (i := z) k85.2 (show (-2147483648 : Int) ≤ _ ∧ _ ≤ (2147483647 : Int) from by omega) rfl) (FR.o (FR.o (FR.o (FR.o ht_M k_t rfl) k82.2 rfl) k84.2 rfl) k85.2 rfl) (by omega) (by obtain ⟨hs, hb, hq, hn⟩ := hy1; have hT := hy2; have hio : ioF T t z (tsQ f N C y) (tsN f N C y) = r79 := (by rw [hq, hn, ← hT, ← w79_0]); exact Or.inr (Or.inr ⟨by rw [hs, hb]; omega, (fun u => by rw [hs, hio] at u; omega), rfl, M, Or.inr ⟨(fun u => by rw [hs, ← hT] at u; omega), hT⟩, by rw [hs, hb, hq, hn, ← w86_0]; rw [tsM_p (by rw [e81]; first | (left; omega) | (right; omega))]⟩)))
            · have sx172 : (1 : Int) ≤ v81 := by omega
              refine jr.iload rfl rfl ?_
              refine jr.iload rfl rfl ?_
              refine jr.iadd rfl ?_
              refine jr.iw (j_w (q_ + n_)) (j_w_eq _) ?_
              have b87 : -2147483648 ≤ j_w (q_ + n_) ∧ j_w (q_ + n_) ≤ 2147483647 := jb_any _
              refine jr.aload_n rfl rfl ?_
              have k88 := kf_1_7 k_t
              refine jr.getf (i := 7) (v := .ref (t + 3)) rfl rfl (Nat.lt_trans (kx_1 k_t).1 (by decide)) (kx_1 k_t).2 (by decide) rfl rfl rfl (jval_ref rfl k88.1) ?_
              refine jr.iload_n rfl rfl ?_
              obtain ⟨v89, e89⟩ : ∃ z_, M ((t + 3)) z = z_ := ⟨_, rfl⟩
              have b89 : (-2147483648) ≤ v89 ∧ v89 ≤ 2147483647 := by rw [← e89]; exact (CI.r hC_M k88.2 (by decide) z)
              refine jr.iald (i := z) (x := v89) rfl (Nat.lt_trans (kx_5 k88.2).1 (by decide)) (kx_5 k88.2).2 (by decide) (by omega) (by omega) ((ju_c _ _ (kd_ne (by rw [k88.2, k_t]; decide))).trans e89) ?_
              refine jr.isub rfl ?_
              refine jr.iw (j_w ((j_w (q_ + n_)) - v89)) (j_w_eq _) ?_
              have b90 : -2147483648 ≤ j_w ((j_w (q_ + n_)) - v89) ∧ j_w ((j_w (q_ + n_)) - v89) ≤ 2147483647 := jb_any _
              refine jr.if_le rfl rfl (by omega) (fun h187 => ?_) (fun h187 => ?_)
              · refine jr.aload_n rfl rfl ?_
                have k91 := kf_1_9 k_t
                refine jr.getf (i := 9) (v := .ref (t + 5)) rfl rfl (Nat.lt_trans (kx_1 k_t).1 (by decide)) (kx_1 k_t).2 (by decide) rfl rfl rfl (jval_ref rfl k91.1) ?_
                refine jr.iload_n rfl rfl ?_
                refine jr.aload_n rfl rfl ?_
                refine jr.iload_n rfl rfl ?_
                refine jr.bipush rfl (by decide) ?_
                refine jr_v rfl rfl (Or.inl rfl) rfl rfl (by decide) rfl ⟨rfl, Nat.le_of_ble_eq_true rfl, Nat.le_of_ble_eq_true rfl⟩ rfl (jc.deep (c_Headers_valueOf_x (CI.u hC_M (i := 5) k_t (show (-2147483648 : Int) ≤ _ ∧ _ ≤ (2147483647 : Int) from by omega) rfl) (show kd 3 = 18 from rfl) (by omega) (by omega) ((ju_i _ _ (by decide)).trans g_C) (HS.fr hy0 (show kd 3 = 18 from rfl) hC_M (FR.o (FR.rfl [(1, 5)] M) k_t rfl) rfl) (fun r92 z92 w92_0 => ?_)) (by decide))
                have hv92 : 0 ≤ r92 ∧ r92 ≤ 65535 := (by have h9 := (st_v hy3).2.2; rw [← w92_0] at h9; exact h9)
                refine jr.l2i rfl ?_
                refine jr.iast (i := z) (x := r92) rfl (Nat.lt_trans (kx_8 k91.2).1 (by decide)) (kx_8 k91.2).2 (by decide) (by omega) (by omega) ?_
                refine jr.iconst rfl ?_
                exact jr.ireturn rfl rfl rfl (q _ _ (CI.u (CI.u hC_M (i := 5) k_t (show (-2147483648 : Int) ≤ _ ∧ _ ≤ (2147483647 : Int) from by omega) rfl) (i := z) k91.2 (show (-2147483648 : Int) ≤ _ ∧ _ ≤ (2147483647 : Int) from by omega) rfl) (FR.o (FR.o ht_M k_t rfl) k91.2 rfl) (by omega) (by obtain ⟨hs, hb, hq, hn⟩ := hy1; have hT := hy2; have hio : ioF T t z (tsQ f N C y) (tsN f N C y) = r79 := (by rw [hq, hn, ← hT, ← w79_0]); exact Or.inr (Or.inr ⟨by rw [hs, hb]; omega, (fun u => by rw [hs, hio] at u; omega), rfl, M, Or.inr ⟨(fun u => by rw [hs, ← hT] at u; omega), hT⟩, by rw [hs, hb, hq, hn, ← w92_0]; rw [tsM_n (by rw [e81, e89]; omega)]⟩)))
              · refine jr.aload_n rfl rfl ?_
                have k93 := kf_1_7 k_t
                refine jr.getf (i := 7) (v := .ref (t + 3)) rfl rfl (Nat.lt_trans (kx_1 k_t).1 (by decide)) (kx_1 k_t).2 (by decide) rfl rfl rfl (jval_ref rfl k93.1) ?_
                refine jr.iload_n rfl rfl ?_
                refine jr.iload rfl rfl ?_
                refine jr.iload rfl rfl ?_
                refine jr.iadd rfl ?_
                refine jr.iw (j_w (q_ + n_)) (j_w_eq _) ?_
                have b94 : -2147483648 ≤ j_w (q_ + n_) ∧ j_w (q_ + n_) ≤ 2147483647 := jb_any _
                refine jr.iast (i := z) (x := (j_w (q_ + n_))) rfl (Nat.lt_trans (kx_5 k93.2).1 (by decide)) (kx_5 k93.2).2 (by decide) (by omega) (by omega) ?_
                refine jr.aload_n rfl rfl ?_
                have k95 := kf_1_8 k_t
                refine jr.getf (i := 8) (v := .ref (t + 4)) rfl rfl (Nat.lt_trans (kx_1 k_t).1 (by decide)) (kx_1 k_t).2 (by decide) rfl rfl rfl (jval_ref rfl k95.1) ?_
                refine jr.iload_n rfl rfl ?_
                refine jr.iconst rfl ?_
                refine jr.zast (i := z) (x := 1) rfl (Nat.lt_trans (kx_4 k95.2).1 (by decide)) (kx_4 k95.2).2 (by decide) (by omega) (by omega) (j_zn (by omega)) ?_
                refine jr.aload_n rfl rfl ?_
                have k96 := kf_1_9 k_t
                refine jr.getf (i := 9) (v := .ref (t + 5)) rfl rfl (Nat.lt_trans (kx_1 k_t).1 (by decide)) (kx_1 k_t).2 (by decide) rfl rfl rfl (jval_ref rfl k96.1) ?_
                refine jr.iload_n rfl rfl ?_
                refine jr.aload_n rfl rfl ?_
                refine jr.iload_n rfl rfl ?_
                refine jr.bipush rfl (by decide) ?_
                refine jr_v rfl rfl (Or.inl rfl) rfl rfl (by decide) rfl ⟨rfl, Nat.le_of_ble_eq_true rfl, Nat.le_of_ble_eq_true rfl⟩ rfl (jc.deep (c_Headers_valueOf_x (CI.u (CI.u (CI.u hC_M (i := 5) k_t (show (-2147483648 : Int) ≤ _ ∧ _ ≤ (2147483647 : Int) from by omega) rfl) (i := z) k93.2 (show (-2147483648 : Int) ≤ _ ∧ _ ≤ (2147483647 : Int) from by omega) rfl) (i := z) k95.2 (show (0 : Int) ≤ _ ∧ _ ≤ (1 : Int) from by omega) rfl) (show kd 3 = 18 from rfl) (by omega) (by omega) ((ju_c _ _ (kd_ne (by rw [(show kd 3 = 18 from rfl), k95.2]; decide))).trans ((ju_c _ _ (kd_ne (by rw [(show kd 3 = 18 from rfl), k93.2]; decide))).trans ((ju_i _ _ (by decide)).trans g_C))) (HS.fr hy0 (show kd 3 = 18 from rfl) hC_M (FR.o (FR.o (FR.o (FR.rfl [(1, 5), (4, 1000), (5, 1000)] M) k_t rfl) k93.2 rfl) k95.2 rfl) rfl) (fun r97 z97 w97_0 => ?_)) (by decide))
                have hv97 : 0 ≤ r97 ∧ r97 ≤ 65535 := (by have h9 := (st_v hy3).2.2; rw [← w97_0] at h9; exact h9)
                refine jr.l2i rfl ?_
                refine jr.iast (i := z) (x := r97) rfl (Nat.lt_trans (kx_8 k96.2).1 (by decide)) (kx_8 k96.2).2 (by decide) (by omega) (by omega) ?_
                refine jr.iconst rfl ?_
                exact jr.ireturn rfl rfl rfl (q _ _ (CI.u (CI.u (CI.u (CI.u hC_M (i := 5) k_t (show (-2147483648 : Int) ≤ _ ∧ _ ≤ (2147483647 : Int) from by omega) rfl) (i := z) k93.2 (show (-2147483648 : Int) ≤ _ ∧ _ ≤ (2147483647 : Int) from by omega) rfl) (i := z) k95.2 (show (0 : Int) ≤ _ ∧ _ ≤ (1 : Int) from by omega) rfl) (i := z) k96.2 (show (-2147483648 : Int) ≤ _ ∧ _ ≤ (2147483647 : Int) from by omega) rfl) (FR.o (FR.o (FR.o (FR.o ht_M k_t rfl) k93.2 rfl) k95.2 rfl) k96.2 rfl) (by omega) (by obtain ⟨hs, hb, hq, hn⟩ := hy1; have hT := hy2; have hio : ioF T t z (tsQ f N C y) (tsN f N C y) = r79 := (by rw [hq, hn, ← hT, ← w79_0]); exact Or.inr (Or.inr ⟨by rw [hs, hb]; omega, (fun u => by rw [hs, hio] at u; omega), rfl, M, Or.inr ⟨(fun u => by rw [hs, ← hT] at u; omega), hT⟩, by rw [hs, hb, hq, hn, ← w97_0]; rw [tsM_p (by rw [e81, e89]; first | (left; omega) | (right; omega))]⟩)))
          · exact absurd (by omega) h144
        · have sx136 : (1 : Int) ≤ r79 := by omega
          refine jr.bipush rfl (by decide) ?_
          exact jr.ireturn rfl rfl rfl (q _ _ hC_M ht_M (by omega) (by obtain ⟨hs, hb, hq, hn⟩ := hy1; have hT := hy2; have hio : ioF T t z (tsQ f N C y) (tsN f N C y) = r79 := (by rw [hq, hn, ← hT, ← w79_0]); exact Or.inr (Or.inl ⟨by rw [hs, hb]; omega, (by rw [hs, hio]; omega), rfl, hT⟩)))
theorem c_Flow_takeStream_x {A : Nat → Option (Nat × (Nat → Int32))} {Q : Option Value → jm → Prop} {f : Int → Int} {N : Int} {T : jm} {M : jm} (hC_M : CI M) (ht_M : FR W_c_Flow_takeStream_x T M) {t : Nat} (k_t : kd t = 1) {y : Int} (h_y : 0 ≤ y ∧ y ≤ 11) {z : Int} (h_z : 0 ≤ z ∧ z ≤ 1) {C : Int} (g_C : M 3 3 = C) (p0 : T = M) (p1 : HS M 3 f N) (p2 : kA f N C y = 8) (q : ∀ (r : Int) (M' : jm), CI M' → FR W_c_Flow_takeStream_x T M' → (-8) ≤ r ∧ r ≤ 0 → (TSQ T M' t f N C y z r) → Q (some (.int (Int32.ofInt r))) M') : jc A 4 71 [.ref (t), .ref (3), .int (Int32.ofInt (y)), .int (Int32.ofInt (z))] M Q := by
  refine jc_of (m := xm_71) rfl (Nat.le_of_ble_eq_true rfl) rfl ?_
  have b_C : 0 ≤ C ∧ C ≤ 12 := by rw [← g_C]; exact (CI.r hC_M (show kd 3 = 18 from rfl) (by decide) 3)
  refine jr.aload_n rfl rfl ?_
  refine jr.iload_n rfl rfl ?_
  refine jr.iconst rfl ?_
  refine jr_v rfl rfl (Or.inl rfl) rfl rfl (by decide) rfl ⟨rfl, Nat.le_of_ble_eq_true rfl, Nat.le_of_ble_eq_true rfl⟩ rfl (jc.deep (c_Headers_valueOf_x hC_M (show kd 3 = 18 from rfl) (by omega) (by omega) g_C p1 (fun r1 z1 w1_0 => ?_)) (by decide))
  have hv1 : 0 ≤ r1 ∧ r1 ≤ 255 := (by have h9 := (st_v p2).1; rw [← w1_0] at h9; exact h9)
  refine jr.l2i rfl ?_
  refine jr.istore rfl (by decide) rfl ?_
  refine jr.iload rfl rfl ?_
  refine jr_s rfl rfl (Or.inl rfl) ⟨Nat.le_of_ble_eq_true rfl, Nat.le_of_ble_eq_true rfl⟩ rfl rfl (jc.deep (c_Flow_streamClass_x hC_M (by omega) (fun r2 z2 w2_0 => ?_)) (by decide))
  refine jr.istore rfl (by decide) rfl ?_
  refine jr.iload rfl rfl ?_
  refine jr.iconst rfl ?_
  refine jr.icmp_ge rfl rfl (by omega) (by omega) (fun h19 => ?_) (fun h19 => ?_)
  · refine jr.iconst rfl ?_
    refine jr.istore rfl (by decide) rfl ?_
    refine jr.iload rfl rfl ?_
    refine jr.if_ne rfl rfl (by omega) (fun h => absurd h (by decide)) (fun _ => ?_)
    refine jr.bipush rfl (by decide) ?_
    exact jr.ireturn rfl rfl rfl (q _ _ hC_M ht_M (by omega) (by have hs : tsS f N C y = r2 := (by unfold tsS; rw [← w1_0, ← w2_0]); rw [p0]; exact Or.inl ⟨by rw [hs]; unfold tsB; rw [if_neg (by omega)], rfl, rfl⟩))
  · refine jr.aload_n rfl rfl ?_
    obtain ⟨v3, e3⟩ : ∃ z_, M t 5 = z_ := ⟨_, rfl⟩
    have b3 : (-2147483648) ≤ v3 ∧ v3 ≤ 2147483647 := by rw [← e3]; exact (CI.r hC_M k_t (by decide) 5)
    refine jr.getf (i := 5) (x := v3) (v := .int (Int32.ofInt (v3))) rfl rfl (Nat.lt_trans (kx_1 k_t).1 (by decide)) (kx_1 k_t).2 (by decide) rfl rfl e3 rfl ?_
    refine jr.iconst rfl ?_
    refine jr.icmp_lt rfl rfl (by omega) (by omega) (fun h27 => ?_) (fun h27 => ?_)
    · refine jr.iconst rfl ?_
      refine jr.istore rfl (by decide) rfl ?_
      refine jr.iload rfl rfl ?_
      refine jr.if_ne rfl rfl (by omega) (fun h => absurd h (by decide)) (fun _ => ?_)
      refine jr.bipush rfl (by decide) ?_
      exact jr.ireturn rfl rfl rfl (q _ _ hC_M ht_M (by omega) (by have hs : tsS f N C y = r2 := (by unfold tsS; rw [← w1_0, ← w2_0]); rw [p0]; exact Or.inl ⟨by rw [hs, e3]; unfold tsB; rw [if_neg (by omega)], rfl, rfl⟩))
    · refine jr.aload_n rfl rfl ?_
      refine jr.getf (i := 5) (x := v3) (v := .int (Int32.ofInt (v3))) rfl rfl (Nat.lt_trans (kx_1 k_t).1 (by decide)) (kx_1 k_t).2 (by decide) rfl rfl e3 rfl ?_
      refine jr.bipush rfl (by decide) ?_
      refine jr.icmp_gt rfl rfl (by omega) (by omega) (fun h36 => ?_) (fun h36 => ?_)
      · refine jr.iconst rfl ?_
        refine jr.istore rfl (by decide) rfl ?_
        refine jr.iload rfl rfl ?_
        refine jr.if_ne rfl rfl (by omega) (fun h => absurd h (by decide)) (fun _ => ?_)
        refine jr.bipush rfl (by decide) ?_
        exact jr.ireturn rfl rfl rfl (q _ _ hC_M ht_M (by omega) (by have hs : tsS f N C y = r2 := (by unfold tsS; rw [← w1_0, ← w2_0]); rw [p0]; exact Or.inl ⟨by rw [hs, e3]; unfold tsB; rw [if_neg (by omega)], rfl, rfl⟩))
      · refine jr.gst (v := .ref 1000005) rfl rfl ?_
        refine jr.bipush rfl (by decide) ?_
        refine jr.aload_n rfl rfl ?_
        refine jr.getf (i := 5) (x := v3) (v := .int (Int32.ofInt (v3))) rfl rfl (Nat.lt_trans (kx_1 k_t).1 (by decide)) (kx_1 k_t).2 (by decide) rfl rfl e3 rfl ?_
        refine jr.iconst rfl ?_
        refine jr.isub rfl ?_
        refine jr.imul rfl ?_
        refine jr.iconst rfl ?_
        refine jr.iload_n rfl rfl ?_
        refine jr.imul rfl ?_
        refine jr.iadd rfl ?_
        refine jr.iload rfl rfl ?_
        refine jr.iadd rfl ?_
        obtain ⟨v4, e4⟩ : ∃ z_, xcv_5 (((10 * (v3 - 1)) + (5 * z)) + r2) = z_ := ⟨_, rfl⟩
        have b4 : 0 ≤ v4 ∧ v4 ≤ 10 := by rw [← e4]; exact xcr_5 (by omega) (by omega)
        refine jr.ials (i := (((10 * (v3 - 1)) + (5 * z)) + r2)) v4 rfl (by decide) rfl (by decide) (by omega) (by omega) (by rw [← e4]; exact (Int32.ofInt_toInt _).symm) ?_
        refine jr.goto rfl rfl ?_
        refine jr.istore rfl (by decide) rfl ?_
        refine jr.iload rfl rfl ?_
        refine jr.if_ne rfl rfl (by omega) (fun h67 => ?_) (fun h67 => ?_)
        · have sx67 : (1 : Int) ≤ v4 := by omega
          refine jr.aload_n rfl rfl ?_
          refine jr.iload_n rfl rfl ?_
          refine jr.iconst rfl ?_
          refine jr_v rfl rfl (Or.inl rfl) rfl rfl (by decide) rfl ⟨rfl, Nat.le_of_ble_eq_true rfl, Nat.le_of_ble_eq_true rfl⟩ rfl (jc.deep (c_Headers_valueOf_x hC_M (show kd 3 = 18 from rfl) (by omega) (by omega) g_C p1 (fun r5 z5 w5_0 => ?_)) (by decide))
          have hv5 : 0 ≤ r5 ∧ r5 ≤ 4294967295 := (by have h9 := (st_v p2).2.1; rw [← w5_0] at h9; exact h9)
          refine jr.l2i rfl ?_
          refine jr.iw (j_w r5) (j_w_eq _) ?_
          have b6 : -2147483648 ≤ j_w r5 ∧ j_w r5 ≤ 2147483647 := jb_any _
          refine jr.istore rfl (by decide) rfl ?_
          refine jr.aload_n rfl rfl ?_
          refine jr.iload_n rfl rfl ?_
          obtain ⟨v8, e8⟩ : ∃ z_, M 3 7 = z_ := ⟨_, rfl⟩
          have b8 : 0 ≤ v8 ∧ v8 ≤ 597 := by rw [← e8]; exact (CI.r hC_M (show kd 3 = 18 from rfl) (by decide) 7)
          have k7_S : kd (v8).toNat = 33 := (congrArg (fun z : Int => kd z.toNat) e8).symm.trans (CI.x hC_M (show kd 3 = 18 from rfl) 7 rfl (by decide))
          refine jr_v rfl rfl (Or.inl rfl) rfl rfl (by decide) rfl ⟨rfl, Nat.le_of_ble_eq_true rfl, Nat.le_of_ble_eq_true rfl⟩ rfl (jc.deep (c_Headers_dataBehind_x hC_M (show kd 3 = 18 from rfl) (by omega) g_C e8 p1 (fun r7 z7 w7_0 => ?_)) (by decide))
          refine jr.iload rfl rfl ?_
          refine jr.iconst rfl ?_
          refine jr.iand rfl ?_
          have b9 : j_and r1 2 = r1 / 2 % 2 * 2 ∧ 0 ≤ j_and r1 2 ∧ j_and r1 2 ≤ 16 := ⟨(jbt (by omega)).2.1, by rw [(jbt (by omega)).2.1]; omega⟩
          generalize j_and r1 2 = v9 at b9 ⊢
          refine jr.if_eq rfl rfl (by omega) (fun h91 => ?_) (fun h91 => ?_)
          · refine jr.iconst rfl ?_
            refine jr.iadd rfl ?_
            refine jr.iload rfl rfl ?_
            refine jr.iconst rfl ?_
            refine jr.iand rfl ?_
            have b10 : j_and r1 1 = r1 % 2 ∧ 0 ≤ j_and r1 1 ∧ j_and r1 1 ≤ 16 := ⟨(jbt (by omega)).1, by rw [(jbt (by omega)).1]; omega⟩
            generalize j_and r1 1 = v10 at b10 ⊢
            refine jr.if_eq rfl rfl (by omega) (fun h104 => ?_) (fun h104 => ?_)
            · refine jr.iconst rfl ?_
              refine jr.iadd rfl ?_
              refine jr.istore rfl (by decide) rfl ?_
              refine jr.pick [7, 8, 4, 3, 2, 1, 0, 5, 6] rfl rfl ?_
              exact c_Flow_takeStream_x_L115 k_t q 0 M r1 r2 v4 (j_w r5) ((r7 + 0) + 0) hC_M ht_M (by omega) (by omega) (by omega) (by omega) (by omega) (by omega) (by omega) g_C p1 ⟨(by unfold tsS; rw [← w1_0, ← w2_0]), (by rw [p0, e3]; unfold tsB; rw [if_pos (by omega), e4]), (by unfold tsQ; rw [← w5_0]), (by unfold tsN; rw [← w7_0, ← w1_0]; omega)⟩ p0.symm p2 (by omega)
            · have sx104 : (1 : Int) ≤ v10 := by omega
              refine jr.iconst rfl ?_
              refine jr.goto rfl rfl ?_
              refine jr.iadd rfl ?_
              refine jr.istore rfl (by decide) rfl ?_
              refine jr.pick [7, 8, 4, 3, 2, 1, 0, 5, 6] rfl rfl ?_
              exact c_Flow_takeStream_x_L115 k_t q 0 M r1 r2 v4 (j_w r5) ((r7 + 0) + 1) hC_M ht_M (by omega) (by omega) (by omega) (by omega) (by omega) (by omega) (by omega) g_C p1 ⟨(by unfold tsS; rw [← w1_0, ← w2_0]), (by rw [p0, e3]; unfold tsB; rw [if_pos (by omega), e4]), (by unfold tsQ; rw [← w5_0]), (by unfold tsN; rw [← w7_0, ← w1_0]; omega)⟩ p0.symm p2 (by omega)
          · have sx91 : (1 : Int) ≤ v9 := by omega
            refine jr.iconst rfl ?_
            refine jr.goto rfl rfl ?_
            refine jr.iadd rfl ?_
            refine jr.iload rfl rfl ?_
            refine jr.iconst rfl ?_
            refine jr.iand rfl ?_
            have b11 : j_and r1 1 = r1 % 2 ∧ 0 ≤ j_and r1 1 ∧ j_and r1 1 ≤ 16 := ⟨(jbt (by omega)).1, by rw [(jbt (by omega)).1]; omega⟩
            generalize j_and r1 1 = v11 at b11 ⊢
            refine jr.if_eq rfl rfl (by omega) (fun h104 => ?_) (fun h104 => ?_)
            · refine jr.iconst rfl ?_
              refine jr.iadd rfl ?_
              refine jr.istore rfl (by decide) rfl ?_
              refine jr.pick [7, 8, 4, 3, 2, 1, 0, 5, 6] rfl rfl ?_
              exact c_Flow_takeStream_x_L115 k_t q 0 M r1 r2 v4 (j_w r5) ((r7 + 1) + 0) hC_M ht_M (by omega) (by omega) (by omega) (by omega) (by omega) (by omega) (by omega) g_C p1 ⟨(by unfold tsS; rw [← w1_0, ← w2_0]), (by rw [p0, e3]; unfold tsB; rw [if_pos (by omega), e4]), (by unfold tsQ; rw [← w5_0]), (by unfold tsN; rw [← w7_0, ← w1_0]; omega)⟩ p0.symm p2 (by omega)
            · have sx104 : (1 : Int) ≤ v11 := by omega
              refine jr.iconst rfl ?_
              refine jr.goto rfl rfl ?_
              refine jr.iadd rfl ?_
              refine jr.istore rfl (by decide) rfl ?_
              refine jr.pick [7, 8, 4, 3, 2, 1, 0, 5, 6] rfl rfl ?_
              exact c_Flow_takeStream_x_L115 k_t q 0 M r1 r2 v4 (j_w r5) ((r7 + 1) + 1) hC_M ht_M (by omega) (by omega) (by omega) (by omega) (by omega) (by omega) (by omega) g_C p1 ⟨(by unfold tsS; rw [← w1_0, ← w2_0]), (by rw [p0, e3]; unfold tsB; rw [if_pos (by omega), e4]), (by unfold tsQ; rw [← w5_0]), (by unfold tsN; rw [← w7_0, ← w1_0]; omega)⟩ p0.symm p2 (by omega)
        · refine jr.bipush rfl (by decide) ?_
          exact jr.ireturn rfl rfl rfl (q _ _ hC_M ht_M (by omega) (by have hs : tsS f N C y = r2 := (by unfold tsS; rw [← w1_0, ← w2_0]); rw [p0]; exact Or.inl ⟨by rw [hs, e3]; unfold tsB; rw [if_pos (by omega), e4]; omega, rfl, rfl⟩))
noncomputable def tiM (M : jm) (t : Nat) (z u N : Int) : jm := ju (ju (ju (ju M (t + 6) z (jl_w (M (t + 6) z + 1))) (t + 7) z (jl_w (M (t + 7) z + N))) t 12 (if M t 12 ≠ 0 ∨ z = 1 then 1 else 0)) t 6 (u + lvf (M t 2) (M t 5))
theorem tiM_e {M : jm} {t : Nat} {z u N a b c d : Int} (ha : a = jl_w (M (t + 6) z + 1)) (hb : b = jl_w (M (t + 7) z + N)) (hc : c = if M t 12 ≠ 0 ∨ z = 1 then 1 else 0) (hd : d = u + lvf (M t 2) (M t 5)) : ju (ju (ju (ju M (t + 6) z a) (t + 7) z b) t 12 c) t 6 d = tiM M t z u N := by
  subst ha hb hc hd
  rfl
noncomputable def TIQ (T M : jm) (t : Nat) (f : Int → Int) (N C y z u r : Int) : Prop := (T t 2 = 6 ∧ ∃ (B : jm) (q : Int), TSQ T B t f N C y z q ∧ ((q ≠ 0 ∧ r = q ∧ M = B) ∨ (q = 0 ∧ r = 0 ∧ M = tiM B t z u N))) ∨ (T t 2 ≠ 6 ∧ r = 0 ∧ M = tiM (if T t 2 = 17 ∧ z = 1 then ju T t 5 1 else T) t z u N)
noncomputable def W_c_Flow_takeIn_x : List (Nat × Nat) := [(1, 5), (1, 6), (1, 12), (3, 1000), (4, 1000), (5, 1000), (6, 1000), (8, 1000)]
theorem c_Flow_takeIn_x {A : Nat → Option (Nat × (Nat → Int32))} {Q : Option Value → jm → Prop} {f : Int → Int} {N : Int} {T : jm} {M : jm} (hC_M : CI M) (ht_M : FR W_c_Flow_takeIn_x T M) {t : Nat} (k_t : kd t = 1) {y : Int} (h_y : 0 ≤ y ∧ y ≤ 11) {z : Int} (h_z : 0 ≤ z ∧ z ≤ 1) {u : Int} (h_u : 0 ≤ u ∧ u ≤ 2000000000) {C : Int} (g_C : M 3 3 = C) {S : Int} (g_S : M 3 7 = S) {L : Int} (g_L : M ((S.toNat)) 1 = L) (p0 : T = M) (p1 : HS M 3 f N) (p2 : M t 2 ≠ 6 ∨ kA f N C y = 8) (q : ∀ (r : Int) (M' : jm), CI M' → FR W_c_Flow_takeIn_x T M' → (-8) ≤ r ∧ r ≤ 0 → (TIQ T M' t f N C y z u r) → Q (some (.int (Int32.ofInt r))) M') : jc A 5 61 [.ref (t), .ref (3), .int (Int32.ofInt (y)), .int (Int32.ofInt (z)), .int (Int32.ofInt (u))] M Q := by
  have hN : L = N := (by have h9 := p1.2.1; rw [g_S, g_L] at h9; exact h9)
  refine jc_of (m := xm_61) rfl (Nat.le_of_ble_eq_true rfl) rfl ?_
  have b_C : 0 ≤ C ∧ C ≤ 12 := by rw [← g_C]; exact (CI.r hC_M (show kd 3 = 18 from rfl) (by decide) 3)
  have k_S : kd S.toNat = 33 := (congrArg (fun z : Int => kd z.toNat) g_S).symm.trans (CI.x hC_M (show kd 3 = 18 from rfl) 7 rfl (by decide))
  have b_L : (-1) ≤ L ∧ L ≤ 400 := by rw [← g_L]; exact (CI.r hC_M k_S (by decide) 1)
  refine jr.aload_n rfl rfl ?_
  obtain ⟨v1, e1⟩ : ∃ z_, M t 2 = z_ := ⟨_, rfl⟩
  have b1 : (-2147483648) ≤ v1 ∧ v1 ≤ 2147483647 := by rw [← e1]; exact (CI.r hC_M k_t (by decide) 2)
  refine jr.getf (i := 2) (x := v1) (v := .int (Int32.ofInt (v1))) rfl rfl (Nat.lt_trans (kx_1 k_t).1 (by decide)) (kx_1 k_t).2 (by decide) rfl rfl e1 rfl ?_
  refine jr.bipush rfl (by decide) ?_
  refine jr.icmp_ne rfl rfl (by omega) (by omega) (fun h6 => ?_) (fun h6 => ?_)
  · refine jr.aload_n rfl rfl ?_
    refine jr.getf (i := 2) (x := v1) (v := .int (Int32.ofInt (v1))) rfl rfl (Nat.lt_trans (kx_1 k_t).1 (by decide)) (kx_1 k_t).2 (by decide) rfl rfl e1 rfl ?_
    refine jr.bipush rfl (by decide) ?_
    refine jr.icmp_ne rfl rfl (by omega) (by omega) (fun h35 => ?_) (fun h35 => ?_)
    · refine jr.aload_n rfl rfl ?_
      have k2 := kf_1_10 k_t
      refine jr.getf (i := 10) (v := .ref (t + 6)) rfl rfl (Nat.lt_trans (kx_1 k_t).1 (by decide)) (kx_1 k_t).2 (by decide) rfl rfl rfl (jval_ref rfl k2.1) ?_
      refine jr.iload_n rfl rfl ?_
      refine jr.dup2 rfl ⟨rfl, rfl⟩ ?_
      obtain ⟨v3, e3⟩ : ∃ z_, M ((t + 6)) z = z_ := ⟨_, rfl⟩
      have b3 : (-9223372036854775808) ≤ v3 ∧ v3 ≤ 9223372036854775807 := by rw [← e3]; exact (CI.r hC_M k2.2 (by decide) z)
      refine jr.lald (i := z) (x := v3) rfl (Nat.lt_trans (kx_6 k2.2).1 (by decide)) (kx_6 k2.2).2 (by decide) (by omega) (by omega) e3 ?_
      refine jr.lconst (x := 1) rfl (by decide) ?_
      refine jr.ladd rfl ?_
      refine jr.lw (jl_w (v3 + 1)) (jl_w_eq _) ?_
      have b4 : -9223372036854775808 ≤ jl_w (v3 + 1) ∧ jl_w (v3 + 1) ≤ 9223372036854775807 := jbl_any _
      refine jr.last (i := z) (x := (jl_w (v3 + 1))) rfl (Nat.lt_trans (kx_6 k2.2).1 (by decide)) (kx_6 k2.2).2 (by decide) (by omega) (by omega) ?_
      refine jr.aload_n rfl rfl ?_
      have k5 := kf_1_11 k_t
      refine jr.getf (i := 11) (v := .ref (t + 7)) rfl rfl (Nat.lt_trans (kx_1 k_t).1 (by decide)) (kx_1 k_t).2 (by decide) rfl rfl rfl (jval_ref rfl k5.1) ?_
      refine jr.iload_n rfl rfl ?_
      refine jr.dup2 rfl ⟨rfl, rfl⟩ ?_
      obtain ⟨v6, e6⟩ : ∃ z_, M ((t + 7)) z = z_ := ⟨_, rfl⟩
      have b6 : (-9223372036854775808) ≤ v6 ∧ v6 ≤ 9223372036854775807 := by rw [← e6]; exact (CI.r hC_M k5.2 (by decide) z)
      refine jr.lald (i := z) (x := v6) rfl (Nat.lt_trans (kx_3 k5.2).1 (by decide)) (kx_3 k5.2).2 (by decide) (by omega) (by omega) ((ju_c _ _ (kd_ne (by rw [k5.2, k2.2]; decide))).trans e6) ?_
      refine jr.aload_n rfl rfl ?_
      refine jr.getf (i := 7) (x := S) (v := .ref (S.toNat)) rfl rfl (by decide) rfl (by decide) rfl rfl ((ju_c _ _ (kd_ne (by rw [(show kd 3 = 18 from rfl), k2.2]; decide))).trans g_S) rfl ?_
      refine jr.getf (i := 1) (x := L) (v := .int (Int32.ofInt (L))) rfl rfl (Nat.lt_trans (kx_33 k_S).1 (by decide)) (kx_33 k_S).2 (by decide) rfl rfl ((ju_c _ _ (kd_ne (by rw [k_S, k2.2]; decide))).trans g_L) rfl ?_
      refine jr.i2l rfl (by omega) ?_
      refine jr.ladd rfl ?_
      refine jr.lw (jl_w (v6 + L)) (jl_w_eq _) ?_
      have b8 : -9223372036854775808 ≤ jl_w (v6 + L) ∧ jl_w (v6 + L) ≤ 9223372036854775807 := jbl_any _
      refine jr.last (i := z) (x := (jl_w (v6 + L))) rfl (Nat.lt_trans (kx_3 k5.2).1 (by decide)) (kx_3 k5.2).2 (by decide) (by omega) (by omega) ?_
      refine jr.aload_n rfl rfl ?_
      refine jr.aload_n rfl rfl ?_
      obtain ⟨v9, e9⟩ : ∃ z_, M t 12 = z_ := ⟨_, rfl⟩
      have b9 : 0 ≤ v9 ∧ v9 ≤ 1 := by rw [← e9]; exact (CI.r hC_M k_t (by decide) 12)
      refine jr.getf (i := 12) (x := v9) (v := .int (Int32.ofInt (v9))) rfl rfl (Nat.lt_trans (kx_1 k_t).1 (by decide)) (kx_1 k_t).2 (by decide) rfl rfl ((ju_c _ _ (kd_ne (by rw [k_t, k5.2]; decide))).trans ((ju_c _ _ (kd_ne (by rw [k_t, k2.2]; decide))).trans e9)) rfl ?_
      refine jr.if_ne rfl rfl (by omega) (fun h80 => ?_) (fun h80 => ?_)
      · have sx80 : (1 : Int) ≤ v9 := by omega
        refine jr.iconst rfl ?_
        refine jr.goto rfl rfl ?_
        refine jr.putf (i := 12) (x := 1) rfl rfl (Nat.lt_trans (kx_1 k_t).1 (by decide)) (kx_1 k_t).2 (by decide) rfl rfl rfl rfl rfl ?_
        refine jr.aload_n rfl rfl ?_
        refine jr.iload rfl rfl ?_
        refine jr.aload_n rfl rfl ?_
        obtain ⟨v11, e11⟩ : ∃ z_, M t 5 = z_ := ⟨_, rfl⟩
        have b11 : (-2147483648) ≤ v11 ∧ v11 ≤ 2147483647 := by rw [← e11]; exact (CI.r hC_M k_t (by decide) 5)
        refine jr_v rfl rfl (Or.inl rfl) rfl rfl (Nat.lt_trans (kx_1 k_t).1 (by decide)) (kx_1 k_t).2 ⟨rfl, Nat.le_of_ble_eq_true rfl, Nat.le_of_ble_eq_true rfl⟩ rfl (jc.deep (c_Flow_lifeNow_x (CI.u (CI.u (CI.u hC_M (i := z) k2.2 (show (-9223372036854775808 : Int) ≤ _ ∧ _ ≤ (9223372036854775807 : Int) from by omega) rfl) (i := z) k5.2 (show (-9223372036854775808 : Int) ≤ _ ∧ _ ≤ (9223372036854775807 : Int) from by omega) rfl) (i := 12) k_t (show (0 : Int) ≤ _ ∧ _ ≤ (1 : Int) from by omega) rfl) k_t ((ju_i _ _ (by decide)).trans ((ju_c _ _ (kd_ne (by rw [k_t, k5.2]; decide))).trans ((ju_c _ _ (kd_ne (by rw [k_t, k2.2]; decide))).trans e1))) ((ju_i _ _ (by decide)).trans ((ju_c _ _ (kd_ne (by rw [k_t, k5.2]; decide))).trans ((ju_c _ _ (kd_ne (by rw [k_t, k2.2]; decide))).trans e11))) (fun r10 z10 w10_0 => ?_)) (by decide))
        refine jr.iadd rfl ?_
        refine jr.putf (i := 6) (x := (u + r10)) rfl rfl (Nat.lt_trans (kx_1 k_t).1 (by decide)) (kx_1 k_t).2 (by decide) rfl rfl rfl rfl rfl ?_
        refine jr.iconst rfl ?_
        exact jr.ireturn rfl rfl rfl (q _ _ (CI.u (CI.u (CI.u (CI.u hC_M (i := z) k2.2 (show (-9223372036854775808 : Int) ≤ _ ∧ _ ≤ (9223372036854775807 : Int) from by omega) rfl) (i := z) k5.2 (show (-9223372036854775808 : Int) ≤ _ ∧ _ ≤ (9223372036854775807 : Int) from by omega) rfl) (i := 12) k_t (show (0 : Int) ≤ _ ∧ _ ≤ (1 : Int) from by omega) rfl) (i := 6) k_t (show (-2147483648 : Int) ≤ _ ∧ _ ≤ (2147483647 : Int) from by omega) rfl) (FR.o (FR.o (FR.o (FR.o ht_M k2.2 rfl) k5.2 rfl) k_t rfl) k_t rfl) (by omega) (Or.inr ⟨by rw [p0, e1]; omega, rfl, by rw [p0, if_neg (by rw [e1]; omega)]; exact (tiM_e (by rw [show M ((t + 6)) z = v3 from e3]) (by rw [show M ((t + 7)) z = v6 from e6, ← hN]) (by rw [show M t 12 = v9 from e9]; first | (rw [if_pos (by omega)]) | (rw [if_neg (by omega)])) (by rw [show M t 2 = v1 from e1, show M t 5 = v11 from e11, ← w10_0]))⟩))
      · refine jr.iload_n rfl rfl ?_
        refine jr.iconst rfl ?_
        refine jr.icmp_ne rfl rfl (by omega) (by omega) (fun h85 => ?_) (fun h85 => ?_)
        · have sx85 : z ≤ (0 : Int) := by omega
          refine jr.iconst rfl ?_
          refine jr.putf (i := 12) (x := 0) rfl rfl (Nat.lt_trans (kx_1 k_t).1 (by decide)) (kx_1 k_t).2 (by decide) rfl rfl rfl rfl rfl ?_
          refine jr.aload_n rfl rfl ?_
          refine jr.iload rfl rfl ?_
          refine jr.aload_n rfl rfl ?_
          obtain ⟨v13, e13⟩ : ∃ z_, M t 5 = z_ := ⟨_, rfl⟩
          have b13 : (-2147483648) ≤ v13 ∧ v13 ≤ 2147483647 := by rw [← e13]; exact (CI.r hC_M k_t (by decide) 5)
          refine jr_v rfl rfl (Or.inl rfl) rfl rfl (Nat.lt_trans (kx_1 k_t).1 (by decide)) (kx_1 k_t).2 ⟨rfl, Nat.le_of_ble_eq_true rfl, Nat.le_of_ble_eq_true rfl⟩ rfl (jc.deep (c_Flow_lifeNow_x (CI.u (CI.u (CI.u hC_M (i := z) k2.2 (show (-9223372036854775808 : Int) ≤ _ ∧ _ ≤ (9223372036854775807 : Int) from by omega) rfl) (i := z) k5.2 (show (-9223372036854775808 : Int) ≤ _ ∧ _ ≤ (9223372036854775807 : Int) from by omega) rfl) (i := 12) k_t (show (0 : Int) ≤ _ ∧ _ ≤ (1 : Int) from by omega) rfl) k_t ((ju_i _ _ (by decide)).trans ((ju_c _ _ (kd_ne (by rw [k_t, k5.2]; decide))).trans ((ju_c _ _ (kd_ne (by rw [k_t, k2.2]; decide))).trans e1))) ((ju_i _ _ (by decide)).trans ((ju_c _ _ (kd_ne (by rw [k_t, k5.2]; decide))).trans ((ju_c _ _ (kd_ne (by rw [k_t, k2.2]; decide))).trans e13))) (fun r12 z12 w12_0 => ?_)) (by decide))
          refine jr.iadd rfl ?_
          refine jr.putf (i := 6) (x := (u + r12)) rfl rfl (Nat.lt_trans (kx_1 k_t).1 (by decide)) (kx_1 k_t).2 (by decide) rfl rfl rfl rfl rfl ?_
          refine jr.iconst rfl ?_
          exact jr.ireturn rfl rfl rfl (q _ _ (CI.u (CI.u (CI.u (CI.u hC_M (i := z) k2.2 (show (-9223372036854775808 : Int) ≤ _ ∧ _ ≤ (9223372036854775807 : Int) from by omega) rfl) (i := z) k5.2 (show (-9223372036854775808 : Int) ≤ _ ∧ _ ≤ (9223372036854775807 : Int) from by omega) rfl) (i := 12) k_t (show (0 : Int) ≤ _ ∧ _ ≤ (1 : Int) from by omega) rfl) (i := 6) k_t (show (-2147483648 : Int) ≤ _ ∧ _ ≤ (2147483647 : Int) from by omega) rfl) (FR.o (FR.o (FR.o (FR.o ht_M k2.2 rfl) k5.2 rfl) k_t rfl) k_t rfl) (by omega) (Or.inr ⟨by rw [p0, e1]; omega, rfl, by rw [p0, if_neg (by rw [e1]; omega)]; exact (tiM_e (by rw [show M ((t + 6)) z = v3 from e3]) (by rw [show M ((t + 7)) z = v6 from e6, ← hN]) (by rw [show M t 12 = v9 from e9]; first | (rw [if_pos (by omega)]) | (rw [if_neg (by omega)])) (by rw [show M t 2 = v1 from e1, show M t 5 = v13 from e13, ← w12_0]))⟩))
        · refine jr.iconst rfl ?_
          refine jr.goto rfl rfl ?_
          refine jr.putf (i := 12) (x := 1) rfl rfl (Nat.lt_trans (kx_1 k_t).1 (by decide)) (kx_1 k_t).2 (by decide) rfl rfl rfl rfl rfl ?_
          refine jr.aload_n rfl rfl ?_
          refine jr.iload rfl rfl ?_
          refine jr.aload_n rfl rfl ?_
          obtain ⟨v15, e15⟩ : ∃ z_, M t 5 = z_ := ⟨_, rfl⟩
          have b15 : (-2147483648) ≤ v15 ∧ v15 ≤ 2147483647 := by rw [← e15]; exact (CI.r hC_M k_t (by decide) 5)
          refine jr_v rfl rfl (Or.inl rfl) rfl rfl (Nat.lt_trans (kx_1 k_t).1 (by decide)) (kx_1 k_t).2 ⟨rfl, Nat.le_of_ble_eq_true rfl, Nat.le_of_ble_eq_true rfl⟩ rfl (jc.deep (c_Flow_lifeNow_x (CI.u (CI.u (CI.u hC_M (i := z) k2.2 (show (-9223372036854775808 : Int) ≤ _ ∧ _ ≤ (9223372036854775807 : Int) from by omega) rfl) (i := z) k5.2 (show (-9223372036854775808 : Int) ≤ _ ∧ _ ≤ (9223372036854775807 : Int) from by omega) rfl) (i := 12) k_t (show (0 : Int) ≤ _ ∧ _ ≤ (1 : Int) from by omega) rfl) k_t ((ju_i _ _ (by decide)).trans ((ju_c _ _ (kd_ne (by rw [k_t, k5.2]; decide))).trans ((ju_c _ _ (kd_ne (by rw [k_t, k2.2]; decide))).trans e1))) ((ju_i _ _ (by decide)).trans ((ju_c _ _ (kd_ne (by rw [k_t, k5.2]; decide))).trans ((ju_c _ _ (kd_ne (by rw [k_t, k2.2]; decide))).trans e15))) (fun r14 z14 w14_0 => ?_)) (by decide))
          refine jr.iadd rfl ?_
          refine jr.putf (i := 6) (x := (u + r14)) rfl rfl (Nat.lt_trans (kx_1 k_t).1 (by decide)) (kx_1 k_t).2 (by decide) rfl rfl rfl rfl rfl ?_
          refine jr.iconst rfl ?_
          exact jr.ireturn rfl rfl rfl (q _ _ (CI.u (CI.u (CI.u (CI.u hC_M (i := z) k2.2 (show (-9223372036854775808 : Int) ≤ _ ∧ _ ≤ (9223372036854775807 : Int) from by omega) rfl) (i := z) k5.2 (show (-9223372036854775808 : Int) ≤ _ ∧ _ ≤ (9223372036854775807 : Int) from by omega) rfl) (i := 12) k_t (show (0 : Int) ≤ _ ∧ _ ≤ (1 : Int) from by omega) rfl) (i := 6) k_t (show (-2147483648 : Int) ≤ _ ∧ _ ≤ (2147483647 : Int) from by omega) rfl) (FR.o (FR.o (FR.o (FR.o ht_M k2.2 rfl) k5.2 rfl) k_t rfl) k_t rfl) (by omega) (Or.inr ⟨by rw [p0, e1]; omega, rfl, by rw [p0, if_neg (by rw [e1]; omega)]; exact (tiM_e (by rw [show M ((t + 6)) z = v3 from e3]) (by rw [show M ((t + 7)) z = v6 from e6, ← hN]) (by rw [show M t 12 = v9 from e9]; first | (rw [if_pos (by omega)]) | (rw [if_neg (by omega)])) (by rw [show M t 2 = v1 from e1, show M t 5 = v15 from e15, ← w14_0]))⟩))
    · refine jr.iload_n rfl rfl ?_
      refine jr.iconst rfl ?_
      refine jr.icmp_ne rfl rfl (by omega) (by omega) (fun h40 => ?_) (fun h40 => ?_)
      · have sx40 : z ≤ (0 : Int) := by omega
        refine jr.aload_n rfl rfl ?_
        have k16 := kf_1_10 k_t
        refine jr.getf (i := 10) (v := .ref (t + 6)) rfl rfl (Nat.lt_trans (kx_1 k_t).1 (by decide)) (kx_1 k_t).2 (by decide) rfl rfl rfl (jval_ref rfl k16.1) ?_
        refine jr.iload_n rfl rfl ?_
        refine jr.dup2 rfl ⟨rfl, rfl⟩ ?_
        obtain ⟨v17, e17⟩ : ∃ z_, M ((t + 6)) z = z_ := ⟨_, rfl⟩
        have b17 : (-9223372036854775808) ≤ v17 ∧ v17 ≤ 9223372036854775807 := by rw [← e17]; exact (CI.r hC_M k16.2 (by decide) z)
        refine jr.lald (i := z) (x := v17) rfl (Nat.lt_trans (kx_6 k16.2).1 (by decide)) (kx_6 k16.2).2 (by decide) (by omega) (by omega) e17 ?_
        refine jr.lconst (x := 1) rfl (by decide) ?_
        refine jr.ladd rfl ?_
        refine jr.lw (jl_w (v17 + 1)) (jl_w_eq _) ?_
        have b18 : -9223372036854775808 ≤ jl_w (v17 + 1) ∧ jl_w (v17 + 1) ≤ 9223372036854775807 := jbl_any _
        refine jr.last (i := z) (x := (jl_w (v17 + 1))) rfl (Nat.lt_trans (kx_6 k16.2).1 (by decide)) (kx_6 k16.2).2 (by decide) (by omega) (by omega) ?_
        refine jr.aload_n rfl rfl ?_
        have k19 := kf_1_11 k_t
        refine jr.getf (i := 11) (v := .ref (t + 7)) rfl rfl (Nat.lt_trans (kx_1 k_t).1 (by decide)) (kx_1 k_t).2 (by decide) rfl rfl rfl (jval_ref rfl k19.1) ?_
        refine jr.iload_n rfl rfl ?_
        refine jr.dup2 rfl ⟨rfl, rfl⟩ ?_
        obtain ⟨v20, e20⟩ : ∃ z_, M ((t + 7)) z = z_ := ⟨_, rfl⟩
        have b20 : (-9223372036854775808) ≤ v20 ∧ v20 ≤ 9223372036854775807 := by rw [← e20]; exact (CI.r hC_M k19.2 (by decide) z)
        refine jr.lald (i := z) (x := v20) rfl (Nat.lt_trans (kx_3 k19.2).1 (by decide)) (kx_3 k19.2).2 (by decide) (by omega) (by omega) ((ju_c _ _ (kd_ne (by rw [k19.2, k16.2]; decide))).trans e20) ?_
        refine jr.aload_n rfl rfl ?_
        refine jr.getf (i := 7) (x := S) (v := .ref (S.toNat)) rfl rfl (by decide) rfl (by decide) rfl rfl ((ju_c _ _ (kd_ne (by rw [(show kd 3 = 18 from rfl), k16.2]; decide))).trans g_S) rfl ?_
        refine jr.getf (i := 1) (x := L) (v := .int (Int32.ofInt (L))) rfl rfl (Nat.lt_trans (kx_33 k_S).1 (by decide)) (kx_33 k_S).2 (by decide) rfl rfl ((ju_c _ _ (kd_ne (by rw [k_S, k16.2]; decide))).trans g_L) rfl ?_
        refine jr.i2l rfl (by omega) ?_
        refine jr.ladd rfl ?_
        refine jr.lw (jl_w (v20 + L)) (jl_w_eq _) ?_
        have b22 : -9223372036854775808 ≤ jl_w (v20 + L) ∧ jl_w (v20 + L) ≤ 9223372036854775807 := jbl_any _
        refine jr.last (i := z) (x := (jl_w (v20 + L))) rfl (Nat.lt_trans (kx_3 k19.2).1 (by decide)) (kx_3 k19.2).2 (by decide) (by omega) (by omega) ?_
        refine jr.aload_n rfl rfl ?_
        refine jr.aload_n rfl rfl ?_
        obtain ⟨v23, e23⟩ : ∃ z_, M t 12 = z_ := ⟨_, rfl⟩
        have b23 : 0 ≤ v23 ∧ v23 ≤ 1 := by rw [← e23]; exact (CI.r hC_M k_t (by decide) 12)
        refine jr.getf (i := 12) (x := v23) (v := .int (Int32.ofInt (v23))) rfl rfl (Nat.lt_trans (kx_1 k_t).1 (by decide)) (kx_1 k_t).2 (by decide) rfl rfl ((ju_c _ _ (kd_ne (by rw [k_t, k19.2]; decide))).trans ((ju_c _ _ (kd_ne (by rw [k_t, k16.2]; decide))).trans e23)) rfl ?_
        refine jr.if_ne rfl rfl (by omega) (fun h80 => ?_) (fun h80 => ?_)
        · have sx80 : (1 : Int) ≤ v23 := by omega
          refine jr.iconst rfl ?_
          refine jr.goto rfl rfl ?_
          refine jr.putf (i := 12) (x := 1) rfl rfl (Nat.lt_trans (kx_1 k_t).1 (by decide)) (kx_1 k_t).2 (by decide) rfl rfl rfl rfl rfl ?_
          refine jr.aload_n rfl rfl ?_
          refine jr.iload rfl rfl ?_
          refine jr.aload_n rfl rfl ?_
          obtain ⟨v25, e25⟩ : ∃ z_, M t 5 = z_ := ⟨_, rfl⟩
          have b25 : (-2147483648) ≤ v25 ∧ v25 ≤ 2147483647 := by rw [← e25]; exact (CI.r hC_M k_t (by decide) 5)
          refine jr_v rfl rfl (Or.inl rfl) rfl rfl (Nat.lt_trans (kx_1 k_t).1 (by decide)) (kx_1 k_t).2 ⟨rfl, Nat.le_of_ble_eq_true rfl, Nat.le_of_ble_eq_true rfl⟩ rfl (jc.deep (c_Flow_lifeNow_x (CI.u (CI.u (CI.u hC_M (i := z) k16.2 (show (-9223372036854775808 : Int) ≤ _ ∧ _ ≤ (9223372036854775807 : Int) from by omega) rfl) (i := z) k19.2 (show (-9223372036854775808 : Int) ≤ _ ∧ _ ≤ (9223372036854775807 : Int) from by omega) rfl) (i := 12) k_t (show (0 : Int) ≤ _ ∧ _ ≤ (1 : Int) from by omega) rfl) k_t ((ju_i _ _ (by decide)).trans ((ju_c _ _ (kd_ne (by rw [k_t, k19.2]; decide))).trans ((ju_c _ _ (kd_ne (by rw [k_t, k16.2]; decide))).trans e1))) ((ju_i _ _ (by decide)).trans ((ju_c _ _ (kd_ne (by rw [k_t, k19.2]; decide))).trans ((ju_c _ _ (kd_ne (by rw [k_t, k16.2]; decide))).trans e25))) (fun r24 z24 w24_0 => ?_)) (by decide))
          refine jr.iadd rfl ?_
          refine jr.putf (i := 6) (x := (u + r24)) rfl rfl (Nat.lt_trans (kx_1 k_t).1 (by decide)) (kx_1 k_t).2 (by decide) rfl rfl rfl rfl rfl ?_
          refine jr.iconst rfl ?_
          exact jr.ireturn rfl rfl rfl (q _ _ (CI.u (CI.u (CI.u (CI.u hC_M (i := z) k16.2 (show (-9223372036854775808 : Int) ≤ _ ∧ _ ≤ (9223372036854775807 : Int) from by omega) rfl) (i := z) k19.2 (show (-9223372036854775808 : Int) ≤ _ ∧ _ ≤ (9223372036854775807 : Int) from by omega) rfl) (i := 12) k_t (show (0 : Int) ≤ _ ∧ _ ≤ (1 : Int) from by omega) rfl) (i := 6) k_t (show (-2147483648 : Int) ≤ _ ∧ _ ≤ (2147483647 : Int) from by omega) rfl) (FR.o (FR.o (FR.o (FR.o ht_M k16.2 rfl) k19.2 rfl) k_t rfl) k_t rfl) (by omega) (Or.inr ⟨by rw [p0, e1]; omega, rfl, by rw [p0, if_neg (by rw [e1]; omega)]; exact (tiM_e (by rw [show M ((t + 6)) z = v17 from e17]) (by rw [show M ((t + 7)) z = v20 from e20, ← hN]) (by rw [show M t 12 = v23 from e23]; first | (rw [if_pos (by omega)]) | (rw [if_neg (by omega)])) (by rw [show M t 2 = v1 from e1, show M t 5 = v25 from e25, ← w24_0]))⟩))
        · refine jr.iload_n rfl rfl ?_
          refine jr.iconst rfl ?_
          refine jr.icmp_ne rfl rfl (by omega) (by omega) (fun h85 => ?_) (fun h85 => ?_)
          · refine jr.iconst rfl ?_
            refine jr.putf (i := 12) (x := 0) rfl rfl (Nat.lt_trans (kx_1 k_t).1 (by decide)) (kx_1 k_t).2 (by decide) rfl rfl rfl rfl rfl ?_
            refine jr.aload_n rfl rfl ?_
            refine jr.iload rfl rfl ?_
            refine jr.aload_n rfl rfl ?_
            obtain ⟨v27, e27⟩ : ∃ z_, M t 5 = z_ := ⟨_, rfl⟩
            have b27 : (-2147483648) ≤ v27 ∧ v27 ≤ 2147483647 := by rw [← e27]; exact (CI.r hC_M k_t (by decide) 5)
            refine jr_v rfl rfl (Or.inl rfl) rfl rfl (Nat.lt_trans (kx_1 k_t).1 (by decide)) (kx_1 k_t).2 ⟨rfl, Nat.le_of_ble_eq_true rfl, Nat.le_of_ble_eq_true rfl⟩ rfl (jc.deep (c_Flow_lifeNow_x (CI.u (CI.u (CI.u hC_M (i := z) k16.2 (show (-9223372036854775808 : Int) ≤ _ ∧ _ ≤ (9223372036854775807 : Int) from by omega) rfl) (i := z) k19.2 (show (-9223372036854775808 : Int) ≤ _ ∧ _ ≤ (9223372036854775807 : Int) from by omega) rfl) (i := 12) k_t (show (0 : Int) ≤ _ ∧ _ ≤ (1 : Int) from by omega) rfl) k_t ((ju_i _ _ (by decide)).trans ((ju_c _ _ (kd_ne (by rw [k_t, k19.2]; decide))).trans ((ju_c _ _ (kd_ne (by rw [k_t, k16.2]; decide))).trans e1))) ((ju_i _ _ (by decide)).trans ((ju_c _ _ (kd_ne (by rw [k_t, k19.2]; decide))).trans ((ju_c _ _ (kd_ne (by rw [k_t, k16.2]; decide))).trans e27))) (fun r26 z26 w26_0 => ?_)) (by decide))
            refine jr.iadd rfl ?_
            refine jr.putf (i := 6) (x := (u + r26)) rfl rfl (Nat.lt_trans (kx_1 k_t).1 (by decide)) (kx_1 k_t).2 (by decide) rfl rfl rfl rfl rfl ?_
            refine jr.iconst rfl ?_
            exact jr.ireturn rfl rfl rfl (q _ _ (CI.u (CI.u (CI.u (CI.u hC_M (i := z) k16.2 (show (-9223372036854775808 : Int) ≤ _ ∧ _ ≤ (9223372036854775807 : Int) from by omega) rfl) (i := z) k19.2 (show (-9223372036854775808 : Int) ≤ _ ∧ _ ≤ (9223372036854775807 : Int) from by omega) rfl) (i := 12) k_t (show (0 : Int) ≤ _ ∧ _ ≤ (1 : Int) from by omega) rfl) (i := 6) k_t (show (-2147483648 : Int) ≤ _ ∧ _ ≤ (2147483647 : Int) from by omega) rfl) (FR.o (FR.o (FR.o (FR.o ht_M k16.2 rfl) k19.2 rfl) k_t rfl) k_t rfl) (by omega) (Or.inr ⟨by rw [p0, e1]; omega, rfl, by rw [p0, if_neg (by rw [e1]; omega)]; exact (tiM_e (by rw [show M ((t + 6)) z = v17 from e17]) (by rw [show M ((t + 7)) z = v20 from e20, ← hN]) (by rw [show M t 12 = v23 from e23]; first | (rw [if_pos (by omega)]) | (rw [if_neg (by omega)])) (by rw [show M t 2 = v1 from e1, show M t 5 = v27 from e27, ← w26_0]))⟩))
          · exact absurd (by omega) h85
      · refine jr.aload_n rfl rfl ?_
        refine jr.iconst rfl ?_
        refine jr.putf (i := 5) (x := 1) rfl rfl (Nat.lt_trans (kx_1 k_t).1 (by decide)) (kx_1 k_t).2 (by decide) rfl rfl rfl rfl rfl ?_
        refine jr.aload_n rfl rfl ?_
        have k28 := kf_1_10 k_t
        refine jr.getf (i := 10) (v := .ref (t + 6)) rfl rfl (Nat.lt_trans (kx_1 k_t).1 (by decide)) (kx_1 k_t).2 (by decide) rfl rfl rfl (jval_ref rfl k28.1) ?_
        refine jr.iload_n rfl rfl ?_
        refine jr.dup2 rfl ⟨rfl, rfl⟩ ?_
        obtain ⟨v29, e29⟩ : ∃ z_, M ((t + 6)) z = z_ := ⟨_, rfl⟩
        have b29 : (-9223372036854775808) ≤ v29 ∧ v29 ≤ 9223372036854775807 := by rw [← e29]; exact (CI.r hC_M k28.2 (by decide) z)
        refine jr.lald (i := z) (x := v29) rfl (Nat.lt_trans (kx_6 k28.2).1 (by decide)) (kx_6 k28.2).2 (by decide) (by omega) (by omega) ((ju_c _ _ (kd_ne (by rw [k28.2, k_t]; decide))).trans e29) ?_
        refine jr.lconst (x := 1) rfl (by decide) ?_
        refine jr.ladd rfl ?_
        refine jr.lw (jl_w (v29 + 1)) (jl_w_eq _) ?_
        have b30 : -9223372036854775808 ≤ jl_w (v29 + 1) ∧ jl_w (v29 + 1) ≤ 9223372036854775807 := jbl_any _
        refine jr.last (i := z) (x := (jl_w (v29 + 1))) rfl (Nat.lt_trans (kx_6 k28.2).1 (by decide)) (kx_6 k28.2).2 (by decide) (by omega) (by omega) ?_
        refine jr.aload_n rfl rfl ?_
        have k31 := kf_1_11 k_t
        refine jr.getf (i := 11) (v := .ref (t + 7)) rfl rfl (Nat.lt_trans (kx_1 k_t).1 (by decide)) (kx_1 k_t).2 (by decide) rfl rfl rfl (jval_ref rfl k31.1) ?_
        refine jr.iload_n rfl rfl ?_
        refine jr.dup2 rfl ⟨rfl, rfl⟩ ?_
        obtain ⟨v32, e32⟩ : ∃ z_, M ((t + 7)) z = z_ := ⟨_, rfl⟩
        have b32 : (-9223372036854775808) ≤ v32 ∧ v32 ≤ 9223372036854775807 := by rw [← e32]; exact (CI.r hC_M k31.2 (by decide) z)
        refine jr.lald (i := z) (x := v32) rfl (Nat.lt_trans (kx_3 k31.2).1 (by decide)) (kx_3 k31.2).2 (by decide) (by omega) (by omega) ((ju_c _ _ (kd_ne (by rw [k31.2, k28.2]; decide))).trans ((ju_c _ _ (kd_ne (by rw [k31.2, k_t]; decide))).trans e32)) ?_
        refine jr.aload_n rfl rfl ?_
        refine jr.getf (i := 7) (x := S) (v := .ref (S.toNat)) rfl rfl (by decide) rfl (by decide) rfl rfl ((ju_c _ _ (kd_ne (by rw [(show kd 3 = 18 from rfl), k28.2]; decide))).trans ((ju_i _ _ (by decide)).trans g_S)) rfl ?_
        refine jr.getf (i := 1) (x := L) (v := .int (Int32.ofInt (L))) rfl rfl (Nat.lt_trans (kx_33 k_S).1 (by decide)) (kx_33 k_S).2 (by decide) rfl rfl ((ju_c _ _ (kd_ne (by rw [k_S, k28.2]; decide))).trans ((ju_i _ _ (by decide)).trans g_L)) rfl ?_
        refine jr.i2l rfl (by omega) ?_
        refine jr.ladd rfl ?_
        refine jr.lw (jl_w (v32 + L)) (jl_w_eq _) ?_
        have b34 : -9223372036854775808 ≤ jl_w (v32 + L) ∧ jl_w (v32 + L) ≤ 9223372036854775807 := jbl_any _
        refine jr.last (i := z) (x := (jl_w (v32 + L))) rfl (Nat.lt_trans (kx_3 k31.2).1 (by decide)) (kx_3 k31.2).2 (by decide) (by omega) (by omega) ?_
        refine jr.aload_n rfl rfl ?_
        refine jr.aload_n rfl rfl ?_
        obtain ⟨v35, e35⟩ : ∃ z_, M t 12 = z_ := ⟨_, rfl⟩
        have b35 : 0 ≤ v35 ∧ v35 ≤ 1 := by rw [← e35]; exact (CI.r hC_M k_t (by decide) 12)
        refine jr.getf (i := 12) (x := v35) (v := .int (Int32.ofInt (v35))) rfl rfl (Nat.lt_trans (kx_1 k_t).1 (by decide)) (kx_1 k_t).2 (by decide) rfl rfl ((ju_c _ _ (kd_ne (by rw [k_t, k31.2]; decide))).trans ((ju_c _ _ (kd_ne (by rw [k_t, k28.2]; decide))).trans ((ju_i _ _ (by decide)).trans e35))) rfl ?_
        refine jr.if_ne rfl rfl (by omega) (fun h80 => ?_) (fun h80 => ?_)
        · have sx80 : (1 : Int) ≤ v35 := by omega
          refine jr.iconst rfl ?_
          refine jr.goto rfl rfl ?_
          refine jr.putf (i := 12) (x := 1) rfl rfl (Nat.lt_trans (kx_1 k_t).1 (by decide)) (kx_1 k_t).2 (by decide) rfl rfl rfl rfl rfl ?_
          refine jr.aload_n rfl rfl ?_
          refine jr.iload rfl rfl ?_
          refine jr.aload_n rfl rfl ?_
          refine jr_v rfl rfl (Or.inl rfl) rfl rfl (Nat.lt_trans (kx_1 k_t).1 (by decide)) (kx_1 k_t).2 ⟨rfl, Nat.le_of_ble_eq_true rfl, Nat.le_of_ble_eq_true rfl⟩ rfl (jc.deep (c_Flow_lifeNow_x (CI.u (CI.u (CI.u (CI.u hC_M (i := 5) k_t (show (-2147483648 : Int) ≤ _ ∧ _ ≤ (2147483647 : Int) from by omega) rfl) (i := z) k28.2 (show (-9223372036854775808 : Int) ≤ _ ∧ _ ≤ (9223372036854775807 : Int) from by omega) rfl) (i := z) k31.2 (show (-9223372036854775808 : Int) ≤ _ ∧ _ ≤ (9223372036854775807 : Int) from by omega) rfl) (i := 12) k_t (show (0 : Int) ≤ _ ∧ _ ≤ (1 : Int) from by omega) rfl) k_t ((ju_i _ _ (by decide)).trans ((ju_c _ _ (kd_ne (by rw [k_t, k31.2]; decide))).trans ((ju_c _ _ (kd_ne (by rw [k_t, k28.2]; decide))).trans ((ju_i _ _ (by decide)).trans e1)))) ((ju_i _ _ (by decide)).trans ((ju_c _ _ (kd_ne (by rw [k_t, k31.2]; decide))).trans ((ju_c _ _ (kd_ne (by rw [k_t, k28.2]; decide))).trans (ju_same _ _ _ _)))) (fun r36 z36 w36_0 => ?_)) (by decide))
          refine jr.iadd rfl ?_
          refine jr.putf (i := 6) (x := (u + r36)) rfl rfl (Nat.lt_trans (kx_1 k_t).1 (by decide)) (kx_1 k_t).2 (by decide) rfl rfl rfl rfl rfl ?_
          refine jr.iconst rfl ?_
          exact jr.ireturn rfl rfl rfl (q _ _ (CI.u (CI.u (CI.u (CI.u (CI.u hC_M (i := 5) k_t (show (-2147483648 : Int) ≤ _ ∧ _ ≤ (2147483647 : Int) from by omega) rfl) (i := z) k28.2 (show (-9223372036854775808 : Int) ≤ _ ∧ _ ≤ (9223372036854775807 : Int) from by omega) rfl) (i := z) k31.2 (show (-9223372036854775808 : Int) ≤ _ ∧ _ ≤ (9223372036854775807 : Int) from by omega) rfl) (i := 12) k_t (show (0 : Int) ≤ _ ∧ _ ≤ (1 : Int) from by omega) rfl) (i := 6) k_t (show (-2147483648 : Int) ≤ _ ∧ _ ≤ (2147483647 : Int) from by omega) rfl) (FR.o (FR.o (FR.o (FR.o (FR.o ht_M k_t rfl) k28.2 rfl) k31.2 rfl) k_t rfl) k_t rfl) (by omega) (Or.inr ⟨by rw [p0, e1]; omega, rfl, by rw [p0, if_pos (by rw [e1]; omega)]; exact (tiM_e (by rw [show (ju M t 5 1) ((t + 6)) z = v29 from ((ju_c _ _ (kd_ne (by rw [k28.2, k_t]; decide))).trans e29)]) (by rw [show (ju M t 5 1) ((t + 7)) z = v32 from ((ju_c _ _ (kd_ne (by rw [k31.2, k_t]; decide))).trans e32), ← hN]) (by rw [show (ju M t 5 1) t 12 = v35 from ((ju_i _ _ (by decide)).trans e35)]; first | (rw [if_pos (by omega)]) | (rw [if_neg (by omega)])) (by rw [show (ju M t 5 1) t 2 = v1 from ((ju_i _ _ (by decide)).trans e1), show (ju M t 5 1) t 5 = 1 from (ju_same _ _ _ _), ← w36_0]))⟩))
        · refine jr.iload_n rfl rfl ?_
          refine jr.iconst rfl ?_
          refine jr.icmp_ne rfl rfl (by omega) (by omega) (fun h85 => ?_) (fun h85 => ?_)
          · exact absurd h85 (by omega)
          · refine jr.iconst rfl ?_
            refine jr.goto rfl rfl ?_
            refine jr.putf (i := 12) (x := 1) rfl rfl (Nat.lt_trans (kx_1 k_t).1 (by decide)) (kx_1 k_t).2 (by decide) rfl rfl rfl rfl rfl ?_
            refine jr.aload_n rfl rfl ?_
            refine jr.iload rfl rfl ?_
            refine jr.aload_n rfl rfl ?_
            refine jr_v rfl rfl (Or.inl rfl) rfl rfl (Nat.lt_trans (kx_1 k_t).1 (by decide)) (kx_1 k_t).2 ⟨rfl, Nat.le_of_ble_eq_true rfl, Nat.le_of_ble_eq_true rfl⟩ rfl (jc.deep (c_Flow_lifeNow_x (CI.u (CI.u (CI.u (CI.u hC_M (i := 5) k_t (show (-2147483648 : Int) ≤ _ ∧ _ ≤ (2147483647 : Int) from by omega) rfl) (i := z) k28.2 (show (-9223372036854775808 : Int) ≤ _ ∧ _ ≤ (9223372036854775807 : Int) from by omega) rfl) (i := z) k31.2 (show (-9223372036854775808 : Int) ≤ _ ∧ _ ≤ (9223372036854775807 : Int) from by omega) rfl) (i := 12) k_t (show (0 : Int) ≤ _ ∧ _ ≤ (1 : Int) from by omega) rfl) k_t ((ju_i _ _ (by decide)).trans ((ju_c _ _ (kd_ne (by rw [k_t, k31.2]; decide))).trans ((ju_c _ _ (kd_ne (by rw [k_t, k28.2]; decide))).trans ((ju_i _ _ (by decide)).trans e1)))) ((ju_i _ _ (by decide)).trans ((ju_c _ _ (kd_ne (by rw [k_t, k31.2]; decide))).trans ((ju_c _ _ (kd_ne (by rw [k_t, k28.2]; decide))).trans (ju_same _ _ _ _)))) (fun r37 z37 w37_0 => ?_)) (by decide))
            refine jr.iadd rfl ?_
            refine jr.putf (i := 6) (x := (u + r37)) rfl rfl (Nat.lt_trans (kx_1 k_t).1 (by decide)) (kx_1 k_t).2 (by decide) rfl rfl rfl rfl rfl ?_
            refine jr.iconst rfl ?_
            exact jr.ireturn rfl rfl rfl (q _ _ (CI.u (CI.u (CI.u (CI.u (CI.u hC_M (i := 5) k_t (show (-2147483648 : Int) ≤ _ ∧ _ ≤ (2147483647 : Int) from by omega) rfl) (i := z) k28.2 (show (-9223372036854775808 : Int) ≤ _ ∧ _ ≤ (9223372036854775807 : Int) from by omega) rfl) (i := z) k31.2 (show (-9223372036854775808 : Int) ≤ _ ∧ _ ≤ (9223372036854775807 : Int) from by omega) rfl) (i := 12) k_t (show (0 : Int) ≤ _ ∧ _ ≤ (1 : Int) from by omega) rfl) (i := 6) k_t (show (-2147483648 : Int) ≤ _ ∧ _ ≤ (2147483647 : Int) from by omega) rfl) (FR.o (FR.o (FR.o (FR.o (FR.o ht_M k_t rfl) k28.2 rfl) k31.2 rfl) k_t rfl) k_t rfl) (by omega) (Or.inr ⟨by rw [p0, e1]; omega, rfl, by rw [p0, if_pos (by rw [e1]; omega)]; exact (tiM_e (by rw [show (ju M t 5 1) ((t + 6)) z = v29 from ((ju_c _ _ (kd_ne (by rw [k28.2, k_t]; decide))).trans e29)]) (by rw [show (ju M t 5 1) ((t + 7)) z = v32 from ((ju_c _ _ (kd_ne (by rw [k31.2, k_t]; decide))).trans e32), ← hN]) (by rw [show (ju M t 5 1) t 12 = v35 from ((ju_i _ _ (by decide)).trans e35)]; first | (rw [if_pos (by omega)]) | (rw [if_neg (by omega)])) (by rw [show (ju M t 5 1) t 2 = v1 from ((ju_i _ _ (by decide)).trans e1), show (ju M t 5 1) t 5 = 1 from (ju_same _ _ _ _), ← w37_0]))⟩))
  · refine jr.aload_n rfl rfl ?_
    refine jr.aload_n rfl rfl ?_
    refine jr.iload_n rfl rfl ?_
    refine jr.iload_n rfl rfl ?_
    refine jr_v rfl rfl (Or.inl rfl) rfl rfl (Nat.lt_trans (kx_1 k_t).1 (by decide)) (kx_1 k_t).2 ⟨rfl, Nat.le_of_ble_eq_true rfl, Nat.le_of_ble_eq_true rfl⟩ rfl (jc.deep (c_Flow_takeStream_x hC_M (FR.rfl _ M) k_t (by omega) (by omega) g_C rfl p1 (by omega) (fun r38 M38 hC_M38 hf_M38 z38 w38_0 => ?_)) (by decide))
    have ht_M38 : FR W_c_Flow_takeIn_x T M38 := FR.t ht_M hf_M38 (kw_sub rfl)
    refine jr.istore rfl (by decide) rfl ?_
    refine jr.iload rfl rfl ?_
    refine jr.if_eq rfl rfl (by omega) (fun h20 => ?_) (fun h20 => ?_)
    · refine jr.goto rfl rfl ?_
      refine jr.aload_n rfl rfl ?_
      have k39 := kf_1_10 k_t
      refine jr.getf (i := 10) (v := .ref (t + 6)) rfl rfl (Nat.lt_trans (kx_1 k_t).1 (by decide)) (kx_1 k_t).2 (by decide) rfl rfl rfl (jval_ref rfl k39.1) ?_
      refine jr.iload_n rfl rfl ?_
      refine jr.dup2 rfl ⟨rfl, rfl⟩ ?_
      obtain ⟨v40, e40⟩ : ∃ z_, M38 ((t + 6)) z = z_ := ⟨_, rfl⟩
      have b40 : (-9223372036854775808) ≤ v40 ∧ v40 ≤ 9223372036854775807 := by rw [← e40]; exact (CI.r hC_M38 k39.2 (by decide) z)
      refine jr.lald (i := z) (x := v40) rfl (Nat.lt_trans (kx_6 k39.2).1 (by decide)) (kx_6 k39.2).2 (by decide) (by omega) (by omega) e40 ?_
      refine jr.lconst (x := 1) rfl (by decide) ?_
      refine jr.ladd rfl ?_
      refine jr.lw (jl_w (v40 + 1)) (jl_w_eq _) ?_
      have b41 : -9223372036854775808 ≤ jl_w (v40 + 1) ∧ jl_w (v40 + 1) ≤ 9223372036854775807 := jbl_any _
      refine jr.last (i := z) (x := (jl_w (v40 + 1))) rfl (Nat.lt_trans (kx_6 k39.2).1 (by decide)) (kx_6 k39.2).2 (by decide) (by omega) (by omega) ?_
      refine jr.aload_n rfl rfl ?_
      have k42 := kf_1_11 k_t
      refine jr.getf (i := 11) (v := .ref (t + 7)) rfl rfl (Nat.lt_trans (kx_1 k_t).1 (by decide)) (kx_1 k_t).2 (by decide) rfl rfl rfl (jval_ref rfl k42.1) ?_
      refine jr.iload_n rfl rfl ?_
      refine jr.dup2 rfl ⟨rfl, rfl⟩ ?_
      obtain ⟨v43, e43⟩ : ∃ z_, M38 ((t + 7)) z = z_ := ⟨_, rfl⟩
      have b43 : (-9223372036854775808) ≤ v43 ∧ v43 ≤ 9223372036854775807 := by rw [← e43]; exact (CI.r hC_M38 k42.2 (by decide) z)
      refine jr.lald (i := z) (x := v43) rfl (Nat.lt_trans (kx_3 k42.2).1 (by decide)) (kx_3 k42.2).2 (by decide) (by omega) (by omega) ((ju_c _ _ (kd_ne (by rw [k42.2, k39.2]; decide))).trans e43) ?_
      refine jr.aload_n rfl rfl ?_
      have e44 : M38 3 7 = S := (hf_M38.g (show kd 3 = 18 from rfl) rfl).trans g_S
      refine jr.getf (i := 7) (x := S) (v := .ref (S.toNat)) rfl rfl (by decide) rfl (by decide) rfl rfl ((ju_c _ _ (kd_ne (by rw [(show kd 3 = 18 from rfl), k39.2]; decide))).trans e44) rfl ?_
      have e46 : M38 ((S.toNat)) 1 = L := (hf_M38.g k_S rfl).trans g_L
      refine jr.getf (i := 1) (x := L) (v := .int (Int32.ofInt (L))) rfl rfl (Nat.lt_trans (kx_33 k_S).1 (by decide)) (kx_33 k_S).2 (by decide) rfl rfl ((ju_c _ _ (kd_ne (by rw [k_S, k39.2]; decide))).trans e46) rfl ?_
      refine jr.i2l rfl (by omega) ?_
      refine jr.ladd rfl ?_
      refine jr.lw (jl_w (v43 + L)) (jl_w_eq _) ?_
      have b47 : -9223372036854775808 ≤ jl_w (v43 + L) ∧ jl_w (v43 + L) ≤ 9223372036854775807 := jbl_any _
      refine jr.last (i := z) (x := (jl_w (v43 + L))) rfl (Nat.lt_trans (kx_3 k42.2).1 (by decide)) (kx_3 k42.2).2 (by decide) (by omega) (by omega) ?_
      refine jr.aload_n rfl rfl ?_
      refine jr.aload_n rfl rfl ?_
      obtain ⟨v48, e48⟩ : ∃ z_, M38 t 12 = z_ := ⟨_, rfl⟩
      have b48 : 0 ≤ v48 ∧ v48 ≤ 1 := by rw [← e48]; exact (CI.r hC_M38 k_t (by decide) 12)
      refine jr.getf (i := 12) (x := v48) (v := .int (Int32.ofInt (v48))) rfl rfl (Nat.lt_trans (kx_1 k_t).1 (by decide)) (kx_1 k_t).2 (by decide) rfl rfl ((ju_c _ _ (kd_ne (by rw [k_t, k42.2]; decide))).trans ((ju_c _ _ (kd_ne (by rw [k_t, k39.2]; decide))).trans e48)) rfl ?_
      refine jr.if_ne rfl rfl (by omega) (fun h80 => ?_) (fun h80 => ?_)
      · have sx80 : (1 : Int) ≤ v48 := by omega
        refine jr.iconst rfl ?_
        refine jr.goto rfl rfl ?_
        refine jr.putf (i := 12) (x := 1) rfl rfl (Nat.lt_trans (kx_1 k_t).1 (by decide)) (kx_1 k_t).2 (by decide) rfl rfl rfl rfl rfl ?_
        refine jr.aload_n rfl rfl ?_
        refine jr.iload rfl rfl ?_
        refine jr.aload_n rfl rfl ?_
        have e50 : M38 t 2 = v1 := (hf_M38.g k_t rfl).trans e1
        obtain ⟨v51, e51⟩ : ∃ z_, M38 t 5 = z_ := ⟨_, rfl⟩
        have b51 : (-2147483648) ≤ v51 ∧ v51 ≤ 2147483647 := by rw [← e51]; exact (CI.r hC_M38 k_t (by decide) 5)
        refine jr_v rfl rfl (Or.inl rfl) rfl rfl (Nat.lt_trans (kx_1 k_t).1 (by decide)) (kx_1 k_t).2 ⟨rfl, Nat.le_of_ble_eq_true rfl, Nat.le_of_ble_eq_true rfl⟩ rfl (jc.deep (c_Flow_lifeNow_x (CI.u (CI.u (CI.u hC_M38 (i := z) k39.2 (show (-9223372036854775808 : Int) ≤ _ ∧ _ ≤ (9223372036854775807 : Int) from by omega) rfl) (i := z) k42.2 (show (-9223372036854775808 : Int) ≤ _ ∧ _ ≤ (9223372036854775807 : Int) from by omega) rfl) (i := 12) k_t (show (0 : Int) ≤ _ ∧ _ ≤ (1 : Int) from by omega) rfl) k_t ((ju_i _ _ (by decide)).trans ((ju_c _ _ (kd_ne (by rw [k_t, k42.2]; decide))).trans ((ju_c _ _ (kd_ne (by rw [k_t, k39.2]; decide))).trans e50))) ((ju_i _ _ (by decide)).trans ((ju_c _ _ (kd_ne (by rw [k_t, k42.2]; decide))).trans ((ju_c _ _ (kd_ne (by rw [k_t, k39.2]; decide))).trans e51))) (fun r49 z49 w49_0 => ?_)) (by decide))
        refine jr.iadd rfl ?_
        refine jr.putf (i := 6) (x := (u + r49)) rfl rfl (Nat.lt_trans (kx_1 k_t).1 (by decide)) (kx_1 k_t).2 (by decide) rfl rfl rfl rfl rfl ?_
        refine jr.iconst rfl ?_
        exact jr.ireturn rfl rfl rfl (q _ _ (CI.u (CI.u (CI.u (CI.u hC_M38 (i := z) k39.2 (show (-9223372036854775808 : Int) ≤ _ ∧ _ ≤ (9223372036854775807 : Int) from by omega) rfl) (i := z) k42.2 (show (-9223372036854775808 : Int) ≤ _ ∧ _ ≤ (9223372036854775807 : Int) from by omega) rfl) (i := 12) k_t (show (0 : Int) ≤ _ ∧ _ ≤ (1 : Int) from by omega) rfl) (i := 6) k_t (show (-2147483648 : Int) ≤ _ ∧ _ ≤ (2147483647 : Int) from by omega) rfl) (FR.o (FR.o (FR.o (FR.o ht_M38 k39.2 rfl) k42.2 rfl) k_t rfl) k_t rfl) (by omega) (Or.inl ⟨by rw [p0, e1]; omega, M38, _, by rw [p0]; exact w38_0, Or.inr ⟨by omega, rfl, (tiM_e (by rw [show M38 ((t + 6)) z = v40 from e40]) (by rw [show M38 ((t + 7)) z = v43 from e43, ← hN]) (by rw [show M38 t 12 = v48 from e48]; first | (rw [if_pos (by omega)]) | (rw [if_neg (by omega)])) (by rw [show M38 t 2 = v1 from e50, show M38 t 5 = v51 from e51, ← w49_0]))⟩⟩))
      · refine jr.iload_n rfl rfl ?_
        refine jr.iconst rfl ?_
        refine jr.icmp_ne rfl rfl (by omega) (by omega) (fun h85 => ?_) (fun h85 => ?_)
        · have sx85 : z ≤ (0 : Int) := by omega
          refine jr.iconst rfl ?_
          refine jr.putf (i := 12) (x := 0) rfl rfl (Nat.lt_trans (kx_1 k_t).1 (by decide)) (kx_1 k_t).2 (by decide) rfl rfl rfl rfl rfl ?_
          refine jr.aload_n rfl rfl ?_
          refine jr.iload rfl rfl ?_
          refine jr.aload_n rfl rfl ?_
          have e53 : M38 t 2 = v1 := (hf_M38.g k_t rfl).trans e1
          obtain ⟨v54, e54⟩ : ∃ z_, M38 t 5 = z_ := ⟨_, rfl⟩
          have b54 : (-2147483648) ≤ v54 ∧ v54 ≤ 2147483647 := by rw [← e54]; exact (CI.r hC_M38 k_t (by decide) 5)
          refine jr_v rfl rfl (Or.inl rfl) rfl rfl (Nat.lt_trans (kx_1 k_t).1 (by decide)) (kx_1 k_t).2 ⟨rfl, Nat.le_of_ble_eq_true rfl, Nat.le_of_ble_eq_true rfl⟩ rfl (jc.deep (c_Flow_lifeNow_x (CI.u (CI.u (CI.u hC_M38 (i := z) k39.2 (show (-9223372036854775808 : Int) ≤ _ ∧ _ ≤ (9223372036854775807 : Int) from by omega) rfl) (i := z) k42.2 (show (-9223372036854775808 : Int) ≤ _ ∧ _ ≤ (9223372036854775807 : Int) from by omega) rfl) (i := 12) k_t (show (0 : Int) ≤ _ ∧ _ ≤ (1 : Int) from by omega) rfl) k_t ((ju_i _ _ (by decide)).trans ((ju_c _ _ (kd_ne (by rw [k_t, k42.2]; decide))).trans ((ju_c _ _ (kd_ne (by rw [k_t, k39.2]; decide))).trans e53))) ((ju_i _ _ (by decide)).trans ((ju_c _ _ (kd_ne (by rw [k_t, k42.2]; decide))).trans ((ju_c _ _ (kd_ne (by rw [k_t, k39.2]; decide))).trans e54))) (fun r52 z52 w52_0 => ?_)) (by decide))
          refine jr.iadd rfl ?_
          refine jr.putf (i := 6) (x := (u + r52)) rfl rfl (Nat.lt_trans (kx_1 k_t).1 (by decide)) (kx_1 k_t).2 (by decide) rfl rfl rfl rfl rfl ?_
          refine jr.iconst rfl ?_
          exact jr.ireturn rfl rfl rfl (q _ _ (CI.u (CI.u (CI.u (CI.u hC_M38 (i := z) k39.2 (show (-9223372036854775808 : Int) ≤ _ ∧ _ ≤ (9223372036854775807 : Int) from by omega) rfl) (i := z) k42.2 (show (-9223372036854775808 : Int) ≤ _ ∧ _ ≤ (9223372036854775807 : Int) from by omega) rfl) (i := 12) k_t (show (0 : Int) ≤ _ ∧ _ ≤ (1 : Int) from by omega) rfl) (i := 6) k_t (show (-2147483648 : Int) ≤ _ ∧ _ ≤ (2147483647 : Int) from by omega) rfl) (FR.o (FR.o (FR.o (FR.o ht_M38 k39.2 rfl) k42.2 rfl) k_t rfl) k_t rfl) (by omega) (Or.inl ⟨by rw [p0, e1]; omega, M38, _, by rw [p0]; exact w38_0, Or.inr ⟨by omega, rfl, (tiM_e (by rw [show M38 ((t + 6)) z = v40 from e40]) (by rw [show M38 ((t + 7)) z = v43 from e43, ← hN]) (by rw [show M38 t 12 = v48 from e48]; first | (rw [if_pos (by omega)]) | (rw [if_neg (by omega)])) (by rw [show M38 t 2 = v1 from e53, show M38 t 5 = v54 from e54, ← w52_0]))⟩⟩))
        · refine jr.iconst rfl ?_
          refine jr.goto rfl rfl ?_
          refine jr.putf (i := 12) (x := 1) rfl rfl (Nat.lt_trans (kx_1 k_t).1 (by decide)) (kx_1 k_t).2 (by decide) rfl rfl rfl rfl rfl ?_
          refine jr.aload_n rfl rfl ?_
          refine jr.iload rfl rfl ?_
          refine jr.aload_n rfl rfl ?_
          have e56 : M38 t 2 = v1 := (hf_M38.g k_t rfl).trans e1
          obtain ⟨v57, e57⟩ : ∃ z_, M38 t 5 = z_ := ⟨_, rfl⟩
          have b57 : (-2147483648) ≤ v57 ∧ v57 ≤ 2147483647 := by rw [← e57]; exact (CI.r hC_M38 k_t (by decide) 5)
          refine jr_v rfl rfl (Or.inl rfl) rfl rfl (Nat.lt_trans (kx_1 k_t).1 (by decide)) (kx_1 k_t).2 ⟨rfl, Nat.le_of_ble_eq_true rfl, Nat.le_of_ble_eq_true rfl⟩ rfl (jc.deep (c_Flow_lifeNow_x (CI.u (CI.u (CI.u hC_M38 (i := z) k39.2 (show (-9223372036854775808 : Int) ≤ _ ∧ _ ≤ (9223372036854775807 : Int) from by omega) rfl) (i := z) k42.2 (show (-9223372036854775808 : Int) ≤ _ ∧ _ ≤ (9223372036854775807 : Int) from by omega) rfl) (i := 12) k_t (show (0 : Int) ≤ _ ∧ _ ≤ (1 : Int) from by omega) rfl) k_t ((ju_i _ _ (by decide)).trans ((ju_c _ _ (kd_ne (by rw [k_t, k42.2]; decide))).trans ((ju_c _ _ (kd_ne (by rw [k_t, k39.2]; decide))).trans e56))) ((ju_i _ _ (by decide)).trans ((ju_c _ _ (kd_ne (by rw [k_t, k42.2]; decide))).trans ((ju_c _ _ (kd_ne (by rw [k_t, k39.2]; decide))).trans e57))) (fun r55 z55 w55_0 => ?_)) (by decide))
          refine jr.iadd rfl ?_
          refine jr.putf (i := 6) (x := (u + r55)) rfl rfl (Nat.lt_trans (kx_1 k_t).1 (by decide)) (kx_1 k_t).2 (by decide) rfl rfl rfl rfl rfl ?_
          refine jr.iconst rfl ?_
          exact jr.ireturn rfl rfl rfl (q _ _ (CI.u (CI.u (CI.u (CI.u hC_M38 (i := z) k39.2 (show (-9223372036854775808 : Int) ≤ _ ∧ _ ≤ (9223372036854775807 : Int) from by omega) rfl) (i := z) k42.2 (show (-9223372036854775808 : Int) ≤ _ ∧ _ ≤ (9223372036854775807 : Int) from by omega) rfl) (i := 12) k_t (show (0 : Int) ≤ _ ∧ _ ≤ (1 : Int) from by omega) rfl) (i := 6) k_t (show (-2147483648 : Int) ≤ _ ∧ _ ≤ (2147483647 : Int) from by omega) rfl) (FR.o (FR.o (FR.o (FR.o ht_M38 k39.2 rfl) k42.2 rfl) k_t rfl) k_t rfl) (by omega) (Or.inl ⟨by rw [p0, e1]; omega, M38, _, by rw [p0]; exact w38_0, Or.inr ⟨by omega, rfl, (tiM_e (by rw [show M38 ((t + 6)) z = v40 from e40]) (by rw [show M38 ((t + 7)) z = v43 from e43, ← hN]) (by rw [show M38 t 12 = v48 from e48]; first | (rw [if_pos (by omega)]) | (rw [if_neg (by omega)])) (by rw [show M38 t 2 = v1 from e56, show M38 t 5 = v57 from e57, ← w55_0]))⟩⟩))
    · have sx20 : r38 ≤ (-1 : Int) := by omega
      refine jr.iload rfl rfl ?_
      exact jr.ireturn rfl rfl rfl (q _ _ hC_M38 ht_M38 (by omega) (Or.inl ⟨by rw [p0, e1]; omega, M38, _, by rw [p0]; exact w38_0, Or.inl ⟨by omega, rfl, rfl⟩⟩))
end
section
/-! ===== the class: track ===== -/
theorem xf0 : ∀ n : Nat, n < 24 → xe 16 (n : Int) = 29 + 16 * n ∧ xe 17 (n : Int) = 37 + 16 * n := by decide +kernel
theorem xfl {V i : Int} (hV : 16 ≤ V ∧ V ≤ 17) (h : 0 ≤ i ∧ i < 24) : (V = 16 ∧ xe V.toNat i = 29 + 16 * i.toNat) ∨ (V = 17 ∧ xe V.toNat i = 37 + 16 * i.toNat) := by
  obtain ⟨n, rfl⟩ := Int.eq_ofNat_of_zero_le h.1
  have q := xf0 n (by omega)
  rcases (show V = 16 ∨ V = 17 by omega) with rfl | rfl
  · exact Or.inl ⟨rfl, q.1⟩
  · exact Or.inr ⟨rfl, q.2⟩
theorem xfl_b {V i : Int} (hV : 16 ≤ V ∧ V ≤ 17) (h : 0 ≤ i ∧ i < 24) : xe V.toNat i ≠ 18 ∧ xe V.toNat i + 1 ≠ 20 ∧ xe V.toNat i ≠ 19 ∧ xe V.toNat i ≠ 20 ∧ xe V.toNat i + 2 ≠ 19 := by
  have q := xfl hV h
  omega
/-- the first place where no flow lives -/
noncomputable def frF (M : jm) (V : Nat) : Nat → Int → Int
  | 0, _ => -1
  | n + 1, i => if M (xe V i) 0 = 0 then i else frF M V n (i + 1)
theorem frF_s {M : jm} {V : Nat} {i : Int} (h : i < 24) : frF M V (24 - i).toNat i = if M (xe V i) 0 = 0 then i else frF M V (24 - (i + 1)).toNat (i + 1) := by
  obtain ⟨n, hn⟩ : ∃ n : Nat, i = 23 - n := ⟨(23 - i).toNat, by omega⟩
  subst hn
  rw [show (24 - (23 - (n : Int))).toNat = n + 1 by omega, show (24 - (23 - (n : Int) + 1)).toNat = n by omega]
  rfl
noncomputable def mayF (f : Int → Int) (N C I e : Int) : Prop := (e = 6 → tsS f N C I = 0) ∧ (e = 1 → vA f N C I 0 = 8)
noncomputable def BEQ (T M : jm) (f : Int → Int) (N C : Int) (V : Nat) (I y r : Int) : Prop := (¬ mayF f N C I (T 18 2) ∧ r = -6 ∧ M = T) ∨ (mayF f N C I (T 18 2) ∧ frF T V 24 0 = -1 ∧ r = -5 ∧ M = T) ∨ (mayF f N C I (T 18 2) ∧ frF T V 24 0 ≠ -1 ∧ r = frF T V 24 0 ∧ ∃ (B : jm) (q : Int), BGN T B (xe V r) ∧ TIQ B M (xe V r) f N C I 0 y q)
noncomputable def PTQ (T M : jm) (f : Int → Int) (N C F : Int) (V : Nat) (y r : Int) : Prop := (FND T M f N C F 0 ∧ r = -4) ∨ ∃ E : jm, FND T E f N C F 1 ∧ ((E 15 5 ≠ 0 ∧ r = (if feF E V 24 0 = -1 then -6 else feF E V 24 0) ∧ M = E) ∨ (E 15 5 = 0 ∧ feF E V 24 0 = -1 ∧ BEQ E M f N C V (E 15 4) y r) ∨ (E 15 5 = 0 ∧ feF E V 24 0 ≠ -1 ∧ ∃ q : Int, TIQ E M (xe V (feF E V 24 0)) f N C (E 15 4) (sdF E (xe V (feF E V 24 0)) 18) y q ∧ r = (if q = 0 then feF E V 24 0 else q)))
noncomputable def W_c_Flows_begin_x : List (Nat × Nat) := [(1, 0), (1, 1), (1, 2), (1, 5), (1, 6), (1, 12), (1, 13), (1, 15), (2, 1000), (3, 1000), (4, 1000), (5, 1000), (6, 1000), (7, 1000), (8, 1000)]
theorem c_Flows_begin_x_L63 {A : Nat → Option (Nat × (Nat → Int32))} {Q : Option Value → jm → Prop} {f : Int → Int} {N : Int} {T : jm} {C : Int} {I : Int} {E : Int} {V : Int} {y : Int} (q : ∀ (r : Int) (M' : jm), CI M' → FR W_c_Flows_begin_x T M' → (-6) ≤ r ∧ r ≤ 23 → (BEQ T M' f N C V.toNat I y r) → Q (some (.int (Int32.ofInt r))) M') : ∀ (nM : Nat) (M : jm) (i : Int), CI M → FR W_c_Flows_begin_x T M → 0 ≤ y ∧ y ≤ 2000000000 → 0 ≤ i ∧ i ≤ 24 → M 3 3 = C → M 15 4 = I → M 18 2 = E → M 15 0 = V → (HS M 3 f N) → (frF T V.toNat 24 0 = frF T V.toNat (24 - i).toNat i) → (mayF f N C I (T 18 2)) → (M = T) → ((E = 6 → kA f N C I = 8) ∧ (0 ≤ I ∧ I ≤ 11)) → 24 - i ≤ nM → jr A 5 xm_87 63 [(2, .int (Int32.ofInt (y))), (3, .int (Int32.ofInt (i))), (0, .ref (15)), (1, .ref (3))] [] M Q := by
  intro nM
  induction nM using Nat.strongRecOn with
  | ind nM ih =>
    intro M i hC_M ht_M h_y h_i g_C g_I g_E g_V hy0 hy1 hy2 hy3 hy4 hm
    have b_C : 0 ≤ C ∧ C ≤ 12 := by rw [← g_C]; exact (CI.r hC_M (show kd 3 = 18 from rfl) (by decide) 3)
    have b_I : (-2147483648) ≤ I ∧ I ≤ 2147483647 := by rw [← g_I]; exact (CI.r hC_M (show kd 15 = 9 from rfl) (by decide) 4)
    have b_E : (-2147483648) ≤ E ∧ E ≤ 2147483647 := by rw [← g_E]; exact (CI.r hC_M (show kd 18 = 1 from rfl) (by decide) 2)
    have b_V : 16 ≤ V ∧ V ≤ 17 := by rw [← g_V]; exact (CI.r hC_M (show kd 15 = 9 from rfl) (by decide) 0)
    refine jr.iload_n rfl rfl ?_
    refine jr.bipush rfl (by decide) ?_
    refine jr.icmp_ge rfl rfl (by omega) (by omega) (fun h66 => ?_) (fun h66 => ?_)
    · refine jr.bipush rfl (by decide) ?_
      exact jr.ireturn rfl rfl rfl (q _ _ hC_M ht_M (by omega) (Or.inr (Or.inl ⟨hy2, by rw [hy1, show (24 - i).toNat = 0 from by omega]; rfl, rfl, hy3⟩)))
    · refine jr.aload_n rfl rfl ?_
      have k1 : kd (V).toNat = 13 := by rcases (show V = 16 ∨ V = 17 by omega) with h | h <;> (rw [h]; rfl)
      refine jr.getf (i := 0) (x := V) (v := .ref (V.toNat)) rfl rfl (by decide) rfl (by decide) rfl rfl g_V rfl ?_
      refine jr.iload_n rfl rfl ?_
      have k2 := kxe_13 k1 (i := i) (by omega) (by omega)
      refine jr.aald (c := (xe ((V.toNat)) i)) rfl (Nat.lt_trans (kx_13 k1).1 (by decide)) (kx_13 k1).2 (by decide) (by decide) rfl (by decide) (by omega) (by omega) k2.1 ?_
      obtain ⟨v3, e3⟩ : ∃ z_, M ((xe ((V.toNat)) i)) 0 = z_ := ⟨_, rfl⟩
      have b3 : 0 ≤ v3 ∧ v3 ≤ 1 := by rw [← e3]; exact (CI.r hC_M k2.2 (by decide) 0)
      refine jr.getf (i := 0) (x := v3) (v := .int (Int32.ofInt (v3))) rfl rfl (Nat.lt_trans (kx_1 k2.2).1 (by decide)) (kx_1 k2.2).2 (by decide) rfl rfl e3 rfl ?_
      refine jr.if_ne rfl rfl (by omega) (fun h78 => ?_) (fun h78 => ?_)
      · have sx78 : (1 : Int) ≤ v3 := by omega
        refine jr.iinc rfl rfl (by decide) rfl ?_
        refine jr.goto rfl rfl ?_
        refine jr.pick [1, 0, 2, 3] rfl rfl ?_
        exact ih (nM - 1) (by omega) M (i + 1) hC_M ht_M (by omega) (by omega) g_C g_I g_E g_V hy0 (by rw [hy1, ← hy3, frF_s (by omega), if_neg (by omega)]) hy2 hy3 hy4 (by omega)
      · refine jr.aload_n rfl rfl ?_
        have k4 : kd (V).toNat = 13 := by rcases (show V = 16 ∨ V = 17 by omega) with h | h <;> (rw [h]; rfl)
        refine jr.getf (i := 0) (x := V) (v := .ref (V.toNat)) rfl rfl (by decide) rfl (by decide) rfl rfl g_V rfl ?_
        refine jr.iload_n rfl rfl ?_
        have k5 := kxe_13 k4 (i := i) (by omega) (by omega)
        refine jr.aald (c := (xe ((V.toNat)) i)) rfl (Nat.lt_trans (kx_13 k4).1 (by decide)) (kx_13 k4).2 (by decide) (by decide) rfl (by decide) (by omega) (by omega) k5.1 ?_
        refine jr.aload_n rfl rfl ?_
        refine jr.getf (i := 2) (v := .ref 18) rfl rfl (by decide) rfl (by decide) rfl rfl rfl rfl ?_
        refine jr_v rfl rfl (Or.inl rfl) rfl rfl (Nat.lt_trans (kx_1 k5.2).1 (by decide)) (kx_1 k5.2).2 ⟨rfl, Nat.le_of_ble_eq_true rfl, Nat.le_of_ble_eq_true rfl⟩ rfl (jc.deep (c_Flow_beginAs_x hC_M (FR.rfl _ M) k5.2 rfl (xfl_b (by omega) (by omega)) (fun M6 hC_M6 hf_M6 w6_0 => ?_)) (by decide))
        have ht_M6 : FR W_c_Flows_begin_x T M6 := FR.t ht_M hf_M6 (kw_sub rfl)
        refine jr.aload_n rfl rfl ?_
        have e7 : M6 15 0 = V := (hf_M6.g (show kd 15 = 9 from rfl) rfl).trans g_V
        have k8 : kd (V).toNat = 13 := by rcases (show V = 16 ∨ V = 17 by omega) with h | h <;> (rw [h]; rfl)
        refine jr.getf (i := 0) (x := V) (v := .ref (V.toNat)) rfl rfl (by decide) rfl (by decide) rfl rfl e7 rfl ?_
        refine jr.iload_n rfl rfl ?_
        have k9 := kxe_13 k8 (i := i) (by omega) (by omega)
        refine jr.aald (c := (xe ((V.toNat)) i)) rfl (Nat.lt_trans (kx_13 k8).1 (by decide)) (kx_13 k8).2 (by decide) (by decide) rfl (by decide) (by omega) (by omega) k9.1 ?_
        refine jr.aload_n rfl rfl ?_
        refine jr.aload_n rfl rfl ?_
        have e10 : M6 15 4 = I := (hf_M6.g (show kd 15 = 9 from rfl) rfl).trans g_I
        refine jr.getf (i := 4) (x := I) (v := .int (Int32.ofInt (I))) rfl rfl (by decide) rfl (by decide) rfl rfl e10 rfl ?_
        refine jr.iconst rfl ?_
        refine jr.iload_n rfl rfl ?_
        have e12 : M6 3 3 = C := (hf_M6.g (show kd 3 = 18 from rfl) rfl).trans g_C
        obtain ⟨v13, e13⟩ : ∃ z_, M 3 7 = z_ := ⟨_, rfl⟩
        have b13 : 0 ≤ v13 ∧ v13 ≤ 597 := by rw [← e13]; exact (CI.r hC_M (show kd 3 = 18 from rfl) (by decide) 7)
        have e14 : M6 3 7 = v13 := (hf_M6.g (show kd 3 = 18 from rfl) rfl).trans e13
        have k11_S : kd (v13).toNat = 33 := (congrArg (fun z : Int => kd z.toNat) e14).symm.trans (CI.x hC_M6 (show kd 3 = 18 from rfl) 7 rfl (by decide))
        obtain ⟨v15, e15⟩ : ∃ z_, M ((v13.toNat)) 1 = z_ := ⟨_, rfl⟩
        have b15 : (-1) ≤ v15 ∧ v15 ≤ 400 := by rw [← e15]; exact (CI.r hC_M k11_S (by decide) 1)
        have e16 : M6 ((v13.toNat)) 1 = v15 := (hf_M6.g k11_S rfl).trans e15
        refine jr_v rfl rfl (Or.inl rfl) rfl rfl (Nat.lt_trans (kx_1 k9.2).1 (by decide)) (kx_1 k9.2).2 ⟨rfl, Nat.le_of_ble_eq_true rfl, Nat.le_of_ble_eq_true rfl⟩ rfl (jc.deep (c_Flow_takeIn_x hC_M6 (FR.rfl _ M6) k9.2 (by omega) (by omega) (by omega) e12 e14 e16 rfl (HS.fr hy0 (show kd 3 = 18 from rfl) hC_M hf_M6 rfl) (by have h9 := w6_0.1.2.2.1; rw [g_E] at h9; rw [h9]; exact (Decidable.em (E = 6)).elim (fun h => Or.inr (hy4.1 h)) (fun h => Or.inl h)) (fun r11 M11 hC_M11 hf_M11 z11 w11_0 => ?_)) (by decide))
        have ht_M11 : FR W_c_Flows_begin_x T M11 := FR.t ht_M6 hf_M11 (kw_sub rfl)
        refine jr.pop rfl rfl ?_
        refine jr.iload_n rfl rfl ?_
        exact jr.ireturn rfl rfl rfl (q _ _ hC_M11 ht_M11 (by omega) (by have hfr : frF T V.toNat 24 0 = i := (by rw [hy1, ← hy3, frF_s (by omega), if_pos (by omega)]); exact Or.inr (Or.inr ⟨hy2, by rw [hfr]; omega, by rw [hfr], M6, _, by rw [← hy3]; exact w6_0, w11_0⟩)))
theorem c_Flows_begin_x {A : Nat → Option (Nat × (Nat → Int32))} {Q : Option Value → jm → Prop} {f : Int → Int} {N : Int} {T : jm} {M : jm} (hC_M : CI M) (ht_M : FR W_c_Flows_begin_x T M) {y : Int} (h_y : 0 ≤ y ∧ y ≤ 2000000000) {C : Int} (g_C : M 3 3 = C) {I : Int} (g_I : M 15 4 = I) {E : Int} (g_E : M 18 2 = E) {V : Int} (g_V : M 15 0 = V) (p0 : T = M) (p1 : HS M 3 f N) (p2 : (E = 6 → kA f N C I = 8) ∧ (0 ≤ I ∧ I ≤ 11)) (q : ∀ (r : Int) (M' : jm), CI M' → FR W_c_Flows_begin_x T M' → (-6) ≤ r ∧ r ≤ 23 → (BEQ T M' f N C V.toNat I y r) → Q (some (.int (Int32.ofInt r))) M') : jc A 6 87 [.ref (15), .ref (3), .int (Int32.ofInt (y))] M Q := by
  refine jc_of (m := xm_87) rfl (Nat.le_of_ble_eq_true rfl) rfl ?_
  have b_C : 0 ≤ C ∧ C ≤ 12 := by rw [← g_C]; exact (CI.r hC_M (show kd 3 = 18 from rfl) (by decide) 3)
  have b_I : (-2147483648) ≤ I ∧ I ≤ 2147483647 := by rw [← g_I]; exact (CI.r hC_M (show kd 15 = 9 from rfl) (by decide) 4)
  have b_E : (-2147483648) ≤ E ∧ E ≤ 2147483647 := by rw [← g_E]; exact (CI.r hC_M (show kd 18 = 1 from rfl) (by decide) 2)
  have b_V : 16 ≤ V ∧ V ≤ 17 := by rw [← g_V]; exact (CI.r hC_M (show kd 15 = 9 from rfl) (by decide) 0)
  refine jr.aload_n rfl rfl ?_
  refine jr.getf (i := 2) (v := .ref 18) rfl rfl (by decide) rfl (by decide) rfl rfl rfl rfl ?_
  refine jr.getf (i := 2) (x := E) (v := .int (Int32.ofInt (E))) rfl rfl (by decide) rfl (by decide) rfl rfl g_E rfl ?_
  refine jr.bipush rfl (by decide) ?_
  refine jr.icmp_ne rfl rfl (by omega) (by omega) (fun h9 => ?_) (fun h9 => ?_)
  · refine jr.aload_n rfl rfl ?_
    refine jr.getf (i := 2) (v := .ref 18) rfl rfl (by decide) rfl (by decide) rfl rfl rfl rfl ?_
    refine jr.getf (i := 2) (x := E) (v := .int (Int32.ofInt (E))) rfl rfl (by decide) rfl (by decide) rfl rfl g_E rfl ?_
    refine jr.iconst rfl ?_
    refine jr.icmp_ne rfl rfl (by omega) (by omega) (fun h39 => ?_) (fun h39 => ?_)
    · refine jr.iconst rfl ?_
      refine jr.istore_n rfl (by decide) rfl ?_
      refine jr.pick [3, 0, 1, 2] rfl rfl ?_
      exact c_Flows_begin_x_L63  q 24 M 0 hC_M ht_M (by omega) (by omega) g_C g_I g_E g_V p1 rfl (by rw [p0, g_E]; exact ⟨(by first | exact (fun h => absurd h (by omega)) | exact (fun h => absurd h (by omega))), (by first | exact (fun h => absurd h (by omega)) | exact (fun h => absurd h (by omega)))⟩) p0.symm p2 (by omega)
    · refine jr.aload_n rfl rfl ?_
      refine jr.aload_n rfl rfl ?_
      refine jr.getf (i := 4) (x := I) (v := .int (Int32.ofInt (I))) rfl rfl (by decide) rfl (by decide) rfl rfl g_I rfl ?_
      refine jr.iconst rfl ?_
      refine jr_v rfl rfl (Or.inl rfl) rfl rfl (by decide) rfl ⟨rfl, Nat.le_of_ble_eq_true rfl, Nat.le_of_ble_eq_true rfl⟩ rfl (jc.deep (c_Headers_valueOf_x hC_M (show kd 3 = 18 from rfl) (by omega) (by omega) g_C p1 (fun r1 z1 w1_0 => ?_)) (by decide))
      skip
      refine jr.ldc2 (x := 8) rfl rfl (by decide) ?_
      refine jr.lcmp_eq rfl rfl rfl (by omega) (by omega) (fun h54 => ?_) (fun h54 => ?_)
      · refine jr.iconst rfl ?_
        refine jr.istore_n rfl (by decide) rfl ?_
        refine jr.pick [3, 0, 1, 2] rfl rfl ?_
        exact c_Flows_begin_x_L63  q 24 M 0 hC_M ht_M (by omega) (by omega) g_C g_I g_E g_V p1 rfl (by rw [p0, g_E]; exact ⟨(by first | exact (fun h => absurd h (by omega)) | exact (fun h => absurd h (by omega))), (by first | exact (fun h => absurd h (by omega)) | exact (fun h => by rw [← w1_0]; omega))⟩) p0.symm p2 (by omega)
      · refine jr.bipush rfl (by decide) ?_
        exact jr.ireturn rfl rfl rfl (q _ _ hC_M ht_M (by omega) (by rw [p0]; exact Or.inl ⟨(fun h => by have h1 := h.2; rw [g_E] at h1; have h2 := h1 (by omega); rw [← w1_0] at h2; omega), rfl, rfl⟩))
  · refine jr.aload_n rfl rfl ?_
    refine jr.aload_n rfl rfl ?_
    refine jr.getf (i := 4) (x := I) (v := .int (Int32.ofInt (I))) rfl rfl (by decide) rfl (by decide) rfl rfl g_I rfl ?_
    refine jr.iconst rfl ?_
    refine jr_v rfl rfl (Or.inl rfl) rfl rfl (by decide) rfl ⟨rfl, Nat.le_of_ble_eq_true rfl, Nat.le_of_ble_eq_true rfl⟩ rfl (jc.deep (c_Headers_valueOf_x hC_M (show kd 3 = 18 from rfl) (by omega) (by omega) g_C p1 (fun r2 z2 w2_0 => ?_)) (by decide))
    have hv2 : 0 ≤ r2 ∧ r2 ≤ 255 := (by have h9 := (st_v (p2.1 (by omega))).1; rw [← w2_0] at h9; exact h9)
    refine jr.l2i rfl ?_
    refine jr_s rfl rfl (Or.inl rfl) ⟨Nat.le_of_ble_eq_true rfl, Nat.le_of_ble_eq_true rfl⟩ rfl rfl (jc.deep (c_Flow_streamClass_x hC_M (by omega) (fun r3 z3 w3_0 => ?_)) (by decide))
    skip
    refine jr.if_eq rfl rfl (by omega) (fun h25 => ?_) (fun h25 => ?_)
    · refine jr.aload_n rfl rfl ?_
      refine jr.getf (i := 2) (v := .ref 18) rfl rfl (by decide) rfl (by decide) rfl rfl rfl rfl ?_
      refine jr.getf (i := 2) (x := E) (v := .int (Int32.ofInt (E))) rfl rfl (by decide) rfl (by decide) rfl rfl g_E rfl ?_
      refine jr.iconst rfl ?_
      refine jr.icmp_ne rfl rfl (by omega) (by omega) (fun h39 => ?_) (fun h39 => ?_)
      · refine jr.iconst rfl ?_
        refine jr.istore_n rfl (by decide) rfl ?_
        refine jr.pick [3, 0, 1, 2] rfl rfl ?_
        exact c_Flows_begin_x_L63  q 24 M 0 hC_M ht_M (by omega) (by omega) g_C g_I g_E g_V p1 rfl (by rw [p0, g_E]; exact ⟨(by first | exact (fun h => absurd h (by omega)) | exact (fun h => by unfold tsS; rw [← w2_0, ← w3_0]; omega)), (by first | exact (fun h => absurd h (by omega)) | exact (fun h => absurd h (by omega)))⟩) p0.symm p2 (by omega)
      · exact absurd (by omega) h39
    · refine jr.bipush rfl (by decide) ?_
      exact jr.ireturn rfl rfl rfl (q _ _ hC_M ht_M (by omega) (by rw [p0]; exact Or.inl ⟨(fun h => by have h1 := h.1; rw [g_E] at h1; have h2 := h1 (by omega); unfold tsS at h2; rw [← w2_0, ← w3_0] at h2; omega), rfl, rfl⟩))
theorem FND.k {T E : jm} {f : Int → Int} {N C F : Int} (h : FND T E f N C F 1) (h5 : E 15 5 = 0) : (0 ≤ E 15 4 ∧ E 15 4 < C) ∧ E 18 2 = nxk (kA f N C (E 15 4)) ∧ (7 ≤ kA f N C (E 15 4) ∧ kA f N C (E 15 4) ≤ 9) := by
  rcases h with h | h
  · exact absurd h.2.1 (by decide)
  · obtain ⟨h1, -, -, h3, h4⟩ := h
    rcases h4 with h4 | h4
    · exact absurd (h4.2.1.symm.trans h5) (by decide)
    · rw [h3.2]
      refine ⟨kA_in (f := f) (N := N) (C := C) (by have := h1.2.2.2; omega), h4.2.2.1.2, h1.2.2.2⟩
theorem FND.s {T E : jm} {f : Int → Int} {N C F : Int} (h : FND T E f N C F 1) (h5 : E 15 5 = 0) : E 18 2 = 6 → kA f N C (E 15 4) = 8 := by
  have q := FND.k h h5
  intro h6
  rw [q.2.1] at h6
  unfold nxk at h6
  split at h6
  · omega
  · split at h6 <;> omega
theorem feF_r (M : jm) (V : Nat) : ∀ (n : Nat) (i : Int), 0 ≤ i → feF M V n i = -1 ∨ ((i ≤ feF M V n i ∧ feF M V n i < i + n) ∧ sdF M (xe V (feF M V n i)) 18 ≠ -1) := by
  intro n
  induction n with
  | zero => intro i _; exact Or.inl rfl
  | succ n ih =>
    intro i hi
    unfold feF
    by_cases h : sdF M (xe V i) 18 ≠ -1
    · rw [if_pos h]; exact Or.inr ⟨by omega, h⟩
    · rw [if_neg h]
      rcases ih (i + 1) (by omega) with q | q
      · exact Or.inl q
      · exact Or.inr ⟨by omega, q.2⟩
theorem frF_r (M : jm) (V : Nat) : ∀ (n : Nat) (i : Int), 0 ≤ i → frF M V n i = -1 ∨ ((i ≤ frF M V n i ∧ frF M V n i < i + n) ∧ M (xe V (frF M V n i)) 0 = 0) := by
  intro n
  induction n with
  | zero => intro i _; exact Or.inl rfl
  | succ n ih =>
    intro i hi
    unfold frF
    by_cases h : M (xe V i) 0 = 0
    · rw [if_pos h]; exact Or.inr ⟨by omega, h⟩
    · rw [if_neg h]
      rcases ih (i + 1) (by omega) with q | q
      · exact Or.inl q
      · exact Or.inr ⟨by omega, q.2⟩
noncomputable def W_c_Flows_passThrough_x : List (Nat × Nat) := [(1, 0), (1, 1), (1, 2), (1, 5), (1, 6), (1, 12), (1, 13), (1, 15), (2, 1000), (3, 1000), (4, 1000), (5, 1000), (6, 1000), (7, 1000), (8, 1000), (9, 3), (9, 4), (9, 5)]
theorem c_Flows_passThrough_x {A : Nat → Option (Nat × (Nat → Int32))} {Q : Option Value → jm → Prop} {f : Int → Int} {N : Int} {T : jm} {M : jm} (hC_M : CI M) (ht_M : FR W_c_Flows_passThrough_x T M) {y : Int} (h_y : 0 ≤ y ∧ y ≤ 2000000000) {C : Int} (g_C : M 3 3 = C) {F : Int} (g_F : M 3 4 = F) {V : Int} (g_V : M 15 0 = V) (p0 : T = M) (p1 : HS M 3 f N) (q : ∀ (r : Int) (M' : jm), CI M' → FR W_c_Flows_passThrough_x T M' → (-8) ≤ r ∧ r ≤ 23 → (PTQ T M' f N C F V.toNat y r) → Q (some (.int (Int32.ofInt r))) M') : jc A 7 79 [.ref (15), .ref (3), .int (Int32.ofInt (y))] M Q := by
  refine jc_of (m := xm_79) rfl (Nat.le_of_ble_eq_true rfl) rfl ?_
  have b_C : 0 ≤ C ∧ C ≤ 12 := by rw [← g_C]; exact (CI.r hC_M (show kd 3 = 18 from rfl) (by decide) 3)
  have b_F : (-2147483648) ≤ F ∧ F ≤ 2147483647 := by rw [← g_F]; exact (CI.r hC_M (show kd 3 = 18 from rfl) (by decide) 4)
  have b_V : 16 ≤ V ∧ V ≤ 17 := by rw [← g_V]; exact (CI.r hC_M (show kd 15 = 9 from rfl) (by decide) 0)
  refine jr.aload_n rfl rfl ?_
  refine jr.aload_n rfl rfl ?_
  refine jr_v rfl rfl (Or.inl rfl) rfl rfl (by decide) rfl ⟨rfl, Nat.le_of_ble_eq_true rfl, Nat.le_of_ble_eq_true rfl⟩ rfl (jc.deep (c_Flows_findEnds_x hC_M (FR.rfl _ M)  g_C g_F rfl p1 (fun r1 M1 hC_M1 hf_M1 z1 w1_0 => ?_)) (by decide))
  have ht_M1 : FR W_c_Flows_passThrough_x T M1 := FR.t ht_M hf_M1 (kw_sub rfl)
  refine jr.if_ne rfl rfl (by omega) (fun h5 => ?_) (fun h5 => ?_)
  · have sx5 : (1 : Int) ≤ r1 := by omega
    refine jr.aload_n rfl rfl ?_
    have e3 : M1 15 0 = V := (hf_M1.g (show kd 15 = 9 from rfl) rfl).trans g_V
    refine jr_v rfl rfl (Or.inl rfl) rfl rfl (by decide) rfl ⟨rfl, Nat.le_of_ble_eq_true rfl, Nat.le_of_ble_eq_true rfl⟩ rfl (jc.deep (c_Flows_flowOfEnds_x hC_M1  e3 (fun r2 z2 w2_0 => ?_)) (by decide))
    have hfr := feF_r M1 V.toNat 24 0 (by decide)
    rw [← w2_0] at hfr
    refine jr.istore_n rfl (by decide) rfl ?_
    refine jr.aload_n rfl rfl ?_
    obtain ⟨v4, e4⟩ : ∃ z_, M1 15 5 = z_ := ⟨_, rfl⟩
    have b4 : 0 ≤ v4 ∧ v4 ≤ 1 := by rw [← e4]; exact (CI.r hC_M1 (show kd 15 = 9 from rfl) (by decide) 5)
    refine jr.getf (i := 5) (x := v4) (v := .int (Int32.ofInt (v4))) rfl rfl (by decide) rfl (by decide) rfl rfl e4 rfl ?_
    refine jr.if_eq rfl rfl (by omega) (fun h20 => ?_) (fun h20 => ?_)
    · refine jr.iload_n rfl rfl ?_
      refine jr.iconst rfl ?_
      refine jr.icmp_ne rfl rfl (by omega) (by omega) (fun h37 => ?_) (fun h37 => ?_)
      · have sx37 : (0 : Int) ≤ r2 := by omega
        refine jr.aload_n rfl rfl ?_
        have k5 : kd (V).toNat = 13 := by rcases (show V = 16 ∨ V = 17 by omega) with h | h <;> (rw [h]; rfl)
        refine jr.getf (i := 0) (x := V) (v := .ref (V.toNat)) rfl rfl (by decide) rfl (by decide) rfl rfl e3 rfl ?_
        refine jr.iload_n rfl rfl ?_
        have k6 := kxe_13 k5 (i := r2) (by omega) (by omega)
        refine jr.aald (c := (xe ((V.toNat)) r2)) rfl (Nat.lt_trans (kx_13 k5).1 (by decide)) (kx_13 k5).2 (by decide) (by decide) rfl (by decide) (by omega) (by omega) k6.1 ?_
        refine jr.aload_n rfl rfl ?_
        refine jr.aload_n rfl rfl ?_
        obtain ⟨v7, e7⟩ : ∃ z_, M1 15 4 = z_ := ⟨_, rfl⟩
        have b7 : (-2147483648) ≤ v7 ∧ v7 ≤ 2147483647 := by rw [← e7]; exact (CI.r hC_M1 (show kd 15 = 9 from rfl) (by decide) 4)
        refine jr.getf (i := 4) (x := v7) (v := .int (Int32.ofInt (v7))) rfl rfl (by decide) rfl (by decide) rfl rfl e7 rfl ?_
        refine jr.aload_n rfl rfl ?_
        have k8 : kd (V).toNat = 13 := by rcases (show V = 16 ∨ V = 17 by omega) with h | h <;> (rw [h]; rfl)
        refine jr.getf (i := 0) (x := V) (v := .ref (V.toNat)) rfl rfl (by decide) rfl (by decide) rfl rfl e3 rfl ?_
        refine jr.iload_n rfl rfl ?_
        have k9 := kxe_13 k8 (i := r2) (by omega) (by omega)
        refine jr.aald (c := (xe ((V.toNat)) r2)) rfl (Nat.lt_trans (kx_13 k8).1 (by decide)) (kx_13 k8).2 (by decide) (by decide) rfl (by decide) (by omega) (by omega) k9.1 ?_
        refine jr.aload_n rfl rfl ?_
        refine jr.getf (i := 2) (v := .ref 18) rfl rfl (by decide) rfl (by decide) rfl rfl rfl rfl ?_
        refine jr_v rfl rfl (Or.inl rfl) rfl rfl (Nat.lt_trans (kx_1 k9.2).1 (by decide)) (kx_1 k9.2).2 ⟨rfl, Nat.le_of_ble_eq_true rfl, Nat.le_of_ble_eq_true rfl⟩ rfl (jc.deep (c_Flow_sideOf_x hC_M1 k9.2 (show kd 18 = 1 from rfl) (fun r10 z10 w10_0 => ?_)) (by decide))
        have hsd : 0 ≤ r10 ∧ r10 ≤ 1 := (by have h9 := (hfr.resolve_left (by omega)).2; rw [← w10_0] at h9; omega)
        have hin : 0 ≤ v7 ∧ v7 ≤ 11 := (by have h7 := (FND.k (show FND M M1 f N C F 1 from by have h9 := w1_0; rw [show r1 = 1 from by omega] at h9; exact h9) (by rw [e4]; omega)).1; rw [e7] at h7; omega)
        refine jr.iload_n rfl rfl ?_
        have e12 : M1 3 3 = C := (hf_M1.g (show kd 3 = 18 from rfl) rfl).trans g_C
        obtain ⟨v13, e13⟩ : ∃ z_, M 3 7 = z_ := ⟨_, rfl⟩
        have b13 : 0 ≤ v13 ∧ v13 ≤ 597 := by rw [← e13]; exact (CI.r hC_M (show kd 3 = 18 from rfl) (by decide) 7)
        have e14 : M1 3 7 = v13 := (hf_M1.g (show kd 3 = 18 from rfl) rfl).trans e13
        have k11_S : kd (v13).toNat = 33 := (congrArg (fun z : Int => kd z.toNat) e14).symm.trans (CI.x hC_M1 (show kd 3 = 18 from rfl) 7 rfl (by decide))
        obtain ⟨v15, e15⟩ : ∃ z_, M ((v13.toNat)) 1 = z_ := ⟨_, rfl⟩
        have b15 : (-1) ≤ v15 ∧ v15 ≤ 400 := by rw [← e15]; exact (CI.r hC_M k11_S (by decide) 1)
        have e16 : M1 ((v13.toNat)) 1 = v15 := (hf_M1.g k11_S rfl).trans e15
        refine jr_v rfl rfl (Or.inl rfl) rfl rfl (Nat.lt_trans (kx_1 k6.2).1 (by decide)) (kx_1 k6.2).2 ⟨rfl, Nat.le_of_ble_eq_true rfl, Nat.le_of_ble_eq_true rfl⟩ rfl (jc.deep (c_Flow_takeIn_x hC_M1 (FR.rfl _ M1) k6.2 (by omega) (by omega) (by omega) e12 e14 e16 rfl (HS.fr p1 (show kd 3 = 18 from rfl) hC_M hf_M1 rfl) (by have h8 := FND.s (show FND M M1 f N C F 1 from by have h9 := w1_0; rw [show r1 = 1 from by omega] at h9; exact h9) (by rw [e4]; omega); have h6 := (hfr.resolve_left (by omega)).2; have h5 := sd_r M1 (xe V.toNat r2) 18; rw [e7] at h8; omega) (fun r11 M11 hC_M11 hf_M11 z11 w11_0 => ?_)) (by decide))
        have ht_M11 : FR W_c_Flows_passThrough_x T M11 := FR.t ht_M1 hf_M11 (kw_sub rfl)
        refine jr.istore rfl (by decide) rfl ?_
        refine jr.iload rfl rfl ?_
        refine jr.if_ne rfl rfl (by omega) (fun h79 => ?_) (fun h79 => ?_)
        · have sx79 : r11 ≤ (-1 : Int) := by omega
          refine jr.iload rfl rfl ?_
          exact jr.ireturn rfl rfl rfl (q _ _ hC_M11 ht_M11 (by omega) (by rw [p0]; exact (by have hf := w2_0; exact Or.inr ⟨M1, (by have h9 := w1_0; rw [show r1 = 1 from by omega] at h9; exact h9), Or.inr (Or.inr ⟨by rw [e4]; omega, by rw [← hf]; omega, _, by rw [← hf, ← w10_0, e7]; exact w11_0, by rw [← hf]; first | (rw [if_pos (by omega)]) | (rw [if_neg (by omega)])⟩)⟩)))
        · refine jr.iload_n rfl rfl ?_
          refine jr.goto rfl rfl ?_
          exact jr.ireturn rfl rfl rfl (q _ _ hC_M11 ht_M11 (by omega) (by rw [p0]; exact (by have hf := w2_0; exact Or.inr ⟨M1, (by have h9 := w1_0; rw [show r1 = 1 from by omega] at h9; exact h9), Or.inr (Or.inr ⟨by rw [e4]; omega, by rw [← hf]; omega, _, by rw [← hf, ← w10_0, e7]; exact w11_0, by rw [← hf]; first | (rw [if_pos (by omega)]) | (rw [if_neg (by omega)])⟩)⟩)))
      · refine jr.aload_n rfl rfl ?_
        refine jr.aload_n rfl rfl ?_
        refine jr.iload_n rfl rfl ?_
        have e18 : M1 3 3 = C := (hf_M1.g (show kd 3 = 18 from rfl) rfl).trans g_C
        obtain ⟨v19, e19⟩ : ∃ z_, M1 15 4 = z_ := ⟨_, rfl⟩
        have b19 : (-2147483648) ≤ v19 ∧ v19 ≤ 2147483647 := by rw [← e19]; exact (CI.r hC_M1 (show kd 15 = 9 from rfl) (by decide) 4)
        obtain ⟨v20, e20⟩ : ∃ z_, M1 18 2 = z_ := ⟨_, rfl⟩
        have b20 : (-2147483648) ≤ v20 ∧ v20 ≤ 2147483647 := by rw [← e20]; exact (CI.r hC_M1 (show kd 18 = 1 from rfl) (by decide) 2)
        refine jr_v rfl rfl (Or.inl rfl) rfl rfl (by decide) rfl ⟨rfl, Nat.le_of_ble_eq_true rfl, Nat.le_of_ble_eq_true rfl⟩ rfl (jc.deep (c_Flows_begin_x hC_M1 (FR.rfl _ M1) (by omega) e18 e19 e20 e3 rfl (HS.fr p1 (show kd 3 = 18 from rfl) hC_M hf_M1 rfl) (by have h8 := FND.s (show FND M M1 f N C F 1 from by have h9 := w1_0; rw [show r1 = 1 from by omega] at h9; exact h9) (by rw [e4]; omega); have h7 := (FND.k (show FND M M1 f N C F 1 from by have h9 := w1_0; rw [show r1 = 1 from by omega] at h9; exact h9) (by rw [e4]; omega)).1; rw [e20, e19] at h8; rw [e19] at h7; exact ⟨h8, by omega, by omega⟩) (fun r17 M17 hC_M17 hf_M17 z17 w17_0 => ?_)) (by decide))
        have ht_M17 : FR W_c_Flows_passThrough_x T M17 := FR.t ht_M1 hf_M17 (kw_sub rfl)
        exact jr.ireturn rfl rfl rfl (q _ _ hC_M17 ht_M17 (by omega) (by rw [p0]; exact (by have hf := w2_0; exact Or.inr ⟨M1, (by have h9 := w1_0; rw [show r1 = 1 from by omega] at h9; exact h9), Or.inr (Or.inl ⟨by rw [e4]; omega, by rw [← hf]; omega, by rw [e19]; exact w17_0⟩)⟩)))
    · have sx20 : (1 : Int) ≤ v4 := by omega
      refine jr.iload_n rfl rfl ?_
      refine jr.iconst rfl ?_
      refine jr.icmp_ne rfl rfl (by omega) (by omega) (fun h25 => ?_) (fun h25 => ?_)
      · have sx25 : (0 : Int) ≤ r2 := by omega
        refine jr.iload_n rfl rfl ?_
        exact jr.ireturn rfl rfl rfl (q _ _ hC_M1 ht_M1 (by omega) (by rw [p0]; exact (by have hf := w2_0; exact Or.inr ⟨M1, (by have h9 := w1_0; rw [show r1 = 1 from by omega] at h9; exact h9), Or.inl ⟨by rw [e4]; omega, by rw [← hf]; first | (rw [if_pos (by omega)]) | (rw [if_neg (by omega)]), rfl⟩⟩)))
      · refine jr.bipush rfl (by decide) ?_
        refine jr.goto rfl rfl ?_
        exact jr.ireturn rfl rfl rfl (q _ _ hC_M1 ht_M1 (by omega) (by rw [p0]; exact (by have hf := w2_0; exact Or.inr ⟨M1, (by have h9 := w1_0; rw [show r1 = 1 from by omega] at h9; exact h9), Or.inl ⟨by rw [e4]; omega, by rw [← hf]; first | (rw [if_pos (by omega)]) | (rw [if_neg (by omega)]), rfl⟩⟩)))
  · refine jr.bipush rfl (by decide) ?_
    exact jr.ireturn rfl rfl rfl (q _ _ hC_M1 ht_M1 (by omega) (by rw [p0]; exact (Or.inl ⟨by have h9 := w1_0; rw [show r1 = 0 from by omega] at h9; exact h9, rfl⟩)))
noncomputable def W_c_PacketWall_track_x : List (Nat × Nat) := [(1, 0), (1, 1), (1, 2), (1, 5), (1, 6), (1, 12), (1, 13), (1, 15), (2, 1000), (3, 1000), (4, 1000), (5, 1000), (6, 1000), (7, 1000), (8, 1000), (9, 3), (9, 4), (9, 5), (18, 3), (18, 4), (18, 5), (18, 6), (18, 7), (19, 1000), (20, 1000), (21, 1000)]
theorem c_PacketWall_track_x {A : Nat → Option (Nat × (Nat → Int32))} {Q : Option Value → jm → Prop} {F : Int → Int → Int} {T : jm} {M : jm} (hC_M : CI M) (ht_M : FR W_c_PacketWall_track_x T M) {x : Int} (h_x : (-2147483648) ≤ x ∧ x ≤ 2147483647) {Z : Int} (g_Z : M 0 8 = Z) {V : Int} (g_V : M 15 0 = V) (p0 : T = M) (p1 : PBS M F) (p2 : 0 ≤ Z ∧ Z ≤ 2000000000) (q : ∀ (r : Int) (M' : jm), CI M' → FR W_c_PacketWall_track_x T M' → (-8) ≤ r ∧ r ≤ 23 → (((x < 0 ∨ 23 < x ∨ T (xe 2 x) 1 = -1) ∧ r = -2 ∧ M' = T) ∨ (((0 ≤ x ∧ x ≤ 23) ∧ T (xe 2 x) 1 ≠ -1) ∧ ∃ (C : Int) (H : jm), HE (F x) (T (xe 2 x) 1) C ∧ (H 3 4 = 0 ↔ hX (F x) (T (xe 2 x) 1) C = -1) ∧ FR W_c_Headers_readAll_x T H ∧ PTQ H M' (F x) (T (xe 2 x) 1) C (H 3 4) V.toNat Z r)) → Q (some (.int (Int32.ofInt r))) M') : jc A 8 19 [.ref (0), .int (Int32.ofInt (x))] M Q := by
  refine jc_of (m := xm_19) rfl (Nat.le_of_ble_eq_true rfl) rfl ?_
  have b_Z : (-2147483648) ≤ Z ∧ Z ≤ 2147483647 := by rw [← g_Z]; exact (CI.r hC_M (show kd 0 = 35 from rfl) (by decide) 8)
  have b_V : 16 ≤ V ∧ V ≤ 17 := by rw [← g_V]; exact (CI.r hC_M (show kd 15 = 9 from rfl) (by decide) 0)
  refine jr.aload_n rfl rfl ?_
  refine jr.iload_n rfl rfl ?_
  refine jr_v rfl rfl (Or.inl rfl) rfl rfl (by decide) rfl ⟨rfl, Nat.le_of_ble_eq_true rfl, Nat.le_of_ble_eq_true rfl⟩ rfl (jc.deep (c_PacketWall_isPacket_x hC_M (by omega) (fun r1 z1 w1_0 w1_1 => ?_)) (by decide))
  refine jr.if_ne rfl rfl (by omega) (fun h5 => ?_) (fun h5 => ?_)
  · have sx5 : (1 : Int) ≤ r1 := by omega
    refine jr.aload_n rfl rfl ?_
    refine jr.getf (i := 3) (v := .ref 3) rfl rfl (by decide) rfl (by decide) rfl rfl rfl rfl ?_
    refine jr.aload_n rfl rfl ?_
    refine jr.getf (i := 2) (v := .ref 2) rfl rfl (by decide) rfl (by decide) rfl rfl rfl rfl ?_
    refine jr.iload_n rfl rfl ?_
    have k2 := kxe_42 (a := 2) rfl (i := x) (by omega) (by omega)
    refine jr.aald (c := (xe 2 x)) rfl (by decide) rfl (by decide) (by decide) rfl (by decide) (by omega) (by omega) k2.1 ?_
    obtain ⟨v4, e4⟩ : ∃ z_, M ((xe 2 x)) 1 = z_ := ⟨_, rfl⟩
    have b4 : (-1) ≤ v4 ∧ v4 ≤ 400 := by rw [← e4]; exact (CI.r hC_M k2.2 (by decide) 1)
    refine jr_v rfl rfl (Or.inl rfl) rfl rfl (by decide) rfl ⟨rfl, Nat.le_of_ble_eq_true rfl, Nat.le_of_ble_eq_true rfl⟩ rfl (jc.deep (c_Headers_readAll_x hC_M (FR.rfl _ M) (show kd 3 = 18 from rfl) k2.2 e4 (p1 x (by omega) (by omega)) (fun M3 hC_M3 hf_M3 w3_0 w3_1 w3_2 => ?_)) (by decide))
    have ht_M3 : FR W_c_PacketWall_track_x T M3 := FR.t ht_M hf_M3 (kw_sub rfl)
    refine jr.aload_n rfl rfl ?_
    refine jr.getf (i := 9) (v := .ref 15) rfl rfl (by decide) rfl (by decide) rfl rfl rfl rfl ?_
    refine jr.aload_n rfl rfl ?_
    refine jr.getf (i := 3) (v := .ref 3) rfl rfl (by decide) rfl (by decide) rfl rfl rfl rfl ?_
    refine jr.aload_n rfl rfl ?_
    have e5 : M3 0 8 = Z := (hf_M3.g (show kd 0 = 35 from rfl) rfl).trans g_Z
    refine jr.getf (i := 8) (x := Z) (v := .int (Int32.ofInt (Z))) rfl rfl (by decide) rfl (by decide) rfl rfl e5 rfl ?_
    obtain ⟨v7, e7⟩ : ∃ z_, M3 3 3 = z_ := ⟨_, rfl⟩
    have b7 : 0 ≤ v7 ∧ v7 ≤ 12 := by rw [← e7]; exact (CI.r hC_M3 (show kd 3 = 18 from rfl) (by decide) 3)
    obtain ⟨v8, e8⟩ : ∃ z_, M3 3 4 = z_ := ⟨_, rfl⟩
    have b8 : (-2147483648) ≤ v8 ∧ v8 ≤ 2147483647 := by rw [← e8]; exact (CI.r hC_M3 (show kd 3 = 18 from rfl) (by decide) 4)
    have e9 : M3 15 0 = V := (hf_M3.g (show kd 15 = 9 from rfl) rfl).trans g_V
    refine jr_v rfl rfl (Or.inl rfl) rfl rfl (by decide) rfl ⟨rfl, Nat.le_of_ble_eq_true rfl, Nat.le_of_ble_eq_true rfl⟩ rfl (jc.deep (c_Flows_passThrough_x hC_M3 (FR.rfl _ M3) (by omega) e7 e8 e9 rfl ((w3_1.resolve_left (fun h => by omega)).2) (fun r6 M6 hC_M6 hf_M6 z6 w6_0 => ?_)) (by decide))
    have ht_M6 : FR W_c_PacketWall_track_x T M6 := FR.t ht_M3 hf_M6 (kw_sub rfl)
    exact jr.ireturn rfl rfl rfl (q _ _ hC_M6 ht_M6 (by omega) (Or.inr ⟨by rw [p0]; omega, by rw [p0, e4]; exact ⟨v7, M3, (by have hq := HQ.e ((w3_1.resolve_left (fun h => by omega)).2).2.2.2; rw [e7] at hq; exact hq), ⟨fun h => hxc_z ((w3_1.resolve_left (fun h => by omega)).2) e7 h, fun h => Decidable.byContradiction (fun u => hxc_n ((w3_1.resolve_left (fun h => by omega)).2) e7 u h)⟩, hf_M3, by rw [e8]; exact w6_0⟩⟩))
  · refine jr.bipush rfl (by decide) ?_
    exact jr.ireturn rfl rfl rfl (q _ _ hC_M ht_M (by omega) (Or.inl ⟨by rw [p0]; omega, by omega, p0.symm⟩))
end
section
/-! ===== the reference: four bytes, turn ===== -/
theorem jl_and_16 (x : Int) : jl_and x 65535 = x % 65536 := by
  unfold jl_and
  have hN : (Int64.ofInt x &&& Int64.ofInt 65535).toBitVec.toNat = (x % 18446744073709551616).toNat % 2 ^ 16 := by
    rw [Int64.toBitVec_and, BitVec.toNat_and, jbl_tn, jbl_tn]
    exact Nat.and_two_pow_sub_one_eq_mod _ 16
  rw [jbl_ti, hN]
  split <;> omega
theorem pt22 {f : Int → Int} {i w a b : Int} (ha : a = w / 65536 % 65536) (hb : b = w % 65536) : ptn (ptn f i 2 a) (i + 2) 2 b = ptn f i 4 w := by
  funext k
  unfold ptn
  by_cases q : i ≤ k ∧ k < i + 4
  · rw [if_pos q]
    rcases (show k = i ∨ k = i + 1 ∨ k = i + 2 ∨ k = i + 3 by omega) with e | e | e | e <;> subst e
    · rw [if_neg (by omega), if_pos (by omega), show k + 2 - 1 - k = 1 by omega, show k + 4 - 1 - k = 3 by omega]
      show a / 256 % 256 = w / 16777216 % 256
      omega
    · rw [if_neg (by omega), if_pos (by omega), show i + 2 - 1 - (i + 1) = 0 by omega, show i + 4 - 1 - (i + 1) = 2 by omega]
      show a % 256 = w / 65536 % 256
      omega
    · rw [if_pos (by omega), show i + 2 + 2 - 1 - (i + 2) = 1 by omega, show i + 4 - 1 - (i + 2) = 1 by omega]
      show b / 256 % 256 = w / 256 % 256
      omega
    · rw [if_pos (by omega), show i + 2 + 2 - 1 - (i + 3) = 0 by omega, show i + 4 - 1 - (i + 3) = 0 by omega]
      show b % 256 = w % 256
      omega
  · rw [if_neg q, if_neg (by omega), if_neg (by omega)]
theorem r_layFour_x {A : Nat → Option (Nat × (Nat → Int32))} {Q : Option Value → jm → Prop} {M : jm} (hI_M : RI M) (hH_M : RH M) (hS_M : RF M) {x : Int} (h_x : 0 ≤ x ∧ x ≤ 23) {i : Int} (h_i : 0 ≤ i ∧ i ≤ 396) {w : Int} (h_w : (-9223372036854775808) ≤ w ∧ w ≤ 9223372036854775807) (q : ∀ (M' : jm), RI M' → RH M' → RF M' → rf M' x = ptn (rf M x) i 4 w → OX M M' x → (∀ (a : Nat) (i : Int), a ≠ 601 → M' a i = M a i) → Q none M') : jc A 2 258 [.ref (598), .int (Int32.ofInt (x)), .int (Int32.ofInt (i)), .long (Int64.ofInt (w))] M Q := by
  refine jc_of (m := xm_258) rfl (Nat.le_of_ble_eq_true rfl) rfl ?_
  refine jr.aload_n rfl rfl ?_
  refine jr.iload_n rfl rfl ?_
  refine jr.iload_n rfl rfl ?_
  refine jr.lload_n rfl rfl ?_
  refine jr.bipush rfl (by decide) ?_
  refine jr.lshr rfl ?_
  have b1 : jl_shr w 16 = w / 65536 := jl_shr_ex 16 (by decide) (by omega) (by omega)
  generalize jl_shr w 16 = v1 at b1 ⊢
  refine jr.ldc2 (x := 65535) rfl rfl (by decide) ?_
  refine jr.land rfl ?_
  have b2 : jl_and v1 65535 = v1 % 65536 ∧ 0 ≤ jl_and v1 65535 ∧ jl_and v1 65535 ≤ 65535 := ⟨jl_and_16 _, by rw [jl_and_16]; omega⟩
  generalize jl_and v1 65535 = v2 at b2 ⊢
  refine jr.l2i rfl ?_
  refine jr_v rfl rfl (Or.inl rfl) rfl rfl (by decide) rfl ⟨rfl, Nat.le_of_ble_eq_true rfl, Nat.le_of_ble_eq_true rfl⟩ rfl (jc.deep (r_layTwo_x hI_M hH_M hS_M  (by omega) (by omega) (by omega)  (fun M3 hI_M3 hH_M3 hS_M3  w3_0 w3_1 w3_2 => ?_)) (by decide))
  refine jr.aload_n rfl rfl ?_
  refine jr.iload_n rfl rfl ?_
  refine jr.iload_n rfl rfl ?_
  refine jr.iconst rfl ?_
  refine jr.iadd rfl ?_
  refine jr.lload_n rfl rfl ?_
  refine jr.ldc2 (x := 65535) rfl rfl (by decide) ?_
  refine jr.land rfl ?_
  have b4 : jl_and w 65535 = w % 65536 ∧ 0 ≤ jl_and w 65535 ∧ jl_and w 65535 ≤ 65535 := ⟨jl_and_16 _, by rw [jl_and_16]; omega⟩
  generalize jl_and w 65535 = v4 at b4 ⊢
  refine jr.l2i rfl ?_
  refine jr_v rfl rfl (Or.inl rfl) rfl rfl (by decide) rfl ⟨rfl, Nat.le_of_ble_eq_true rfl, Nat.le_of_ble_eq_true rfl⟩ rfl (jc.deep (r_layTwo_x hI_M3 hH_M3 hS_M3  (by omega) (by omega) (by omega)  (fun M5 hI_M5 hH_M5 hS_M5  w5_0 w5_1 w5_2 => ?_)) (by decide))
  exact jr.vreturn rfl rfl (q _ hI_M5 hH_M5 hS_M5  (by rw [w5_0, w3_0]; exact pt22 (by omega) (by omega)) (fun j hj => (w5_1 j hj).trans (w3_1 j hj)) (fun a i f601 => ((w5_2 a i f601).trans ((w3_2 a i f601).trans rfl))))
theorem r_tapeFour_x {A : Nat → Option (Nat × (Nat → Int32))} {Q : Option Value → jm → Prop} {M : jm} (hI_M : RI M) (hH_M : RH M) (hS_M : RF M) {i : Int} (h_i : 0 ≤ i ∧ i ≤ 1596) {w : Int} (h_w : (-9223372036854775808) ≤ w ∧ w ≤ 9223372036854775807) (q : ∀ (M' : jm), RI M' → RH M' → RF M' → M' 599 = ptn (M 599) i 4 w → (∀ (a : Nat) (i : Int), a ≠ 599 → M' a i = M a i) → Q none M') : jc A 2 325 [.ref (598), .int (Int32.ofInt (i)), .long (Int64.ofInt (w))] M Q := by
  refine jc_of (m := xm_325) rfl (Nat.le_of_ble_eq_true rfl) rfl ?_
  refine jr.aload_n rfl rfl ?_
  refine jr.iload_n rfl rfl ?_
  refine jr.lload_n rfl rfl ?_
  refine jr.bipush rfl (by decide) ?_
  refine jr.lshr rfl ?_
  have b1 : jl_shr w 16 = w / 65536 := jl_shr_ex 16 (by decide) (by omega) (by omega)
  generalize jl_shr w 16 = v1 at b1 ⊢
  refine jr.ldc2 (x := 65535) rfl rfl (by decide) ?_
  refine jr.land rfl ?_
  have b2 : jl_and v1 65535 = v1 % 65536 ∧ 0 ≤ jl_and v1 65535 ∧ jl_and v1 65535 ≤ 65535 := ⟨jl_and_16 _, by rw [jl_and_16]; omega⟩
  generalize jl_and v1 65535 = v2 at b2 ⊢
  refine jr.l2i rfl ?_
  refine jr_v rfl rfl (Or.inl rfl) rfl rfl (by decide) rfl ⟨rfl, Nat.le_of_ble_eq_true rfl, Nat.le_of_ble_eq_true rfl⟩ rfl (jc.deep (r_tapeTwo_x hI_M hH_M hS_M  (by omega) (by omega)  (fun M3 hI_M3 hH_M3 hS_M3  w3_0 w3_1 => ?_)) (by decide))
  refine jr.aload_n rfl rfl ?_
  refine jr.iload_n rfl rfl ?_
  refine jr.iconst rfl ?_
  refine jr.iadd rfl ?_
  refine jr.lload_n rfl rfl ?_
  refine jr.ldc2 (x := 65535) rfl rfl (by decide) ?_
  refine jr.land rfl ?_
  have b4 : jl_and w 65535 = w % 65536 ∧ 0 ≤ jl_and w 65535 ∧ jl_and w 65535 ≤ 65535 := ⟨jl_and_16 _, by rw [jl_and_16]; omega⟩
  generalize jl_and w 65535 = v4 at b4 ⊢
  refine jr.l2i rfl ?_
  refine jr_v rfl rfl (Or.inl rfl) rfl rfl (by decide) rfl ⟨rfl, Nat.le_of_ble_eq_true rfl, Nat.le_of_ble_eq_true rfl⟩ rfl (jc.deep (r_tapeTwo_x hI_M3 hH_M3 hS_M3  (by omega) (by omega)  (fun M5 hI_M5 hH_M5 hS_M5  w5_0 w5_1 => ?_)) (by decide))
  exact jr.vreturn rfl rfl (q _ hI_M5 hH_M5 hS_M5  (by rw [w5_0, w3_0]; exact pt22 (by omega) (by omega)) (fun a i f599 => ((w5_1 a i f599).trans ((w3_1 a i f599).trans rfl))))
/-- bytes behind turn: net n, inner i, the side, address and port -/
noncomputable def tuF (f : Int → Int) (N C n i s a o : Int) : Int → Int := mdF f N C n (mdF f N C i (ptn (ptn f (hY f N n + (if s = 0 then 12 else 16)) 4 a) (hY f N i + (if s = 0 then 0 else 2)) 2 o))
noncomputable def TU7 (T M' : jm) (f : Int → Int) (N C x r : Int) : Prop := (¬ heG f N C ∧ r = -4 ∧ ∀ i : Int, M' 601 i = T 601 i) ∨ (heG f N C ∧ ∃ E : jm, TRE T E f N C x ∧ EN6 E f N C (ntf f N C) (inf f N C (ntf f N C)) ∧ (((fe6 E 24 0 = -1 ∨ E 640 (fe6 E 24 0) = -1) ∧ r = -4 ∧ ∀ i : Int, M' 601 i = T 601 i) ∨ ((fe6 E 24 0 ≠ -1 ∧ E 640 (fe6 E 24 0) ≠ -1) ∧ r = sd6 E (fe6 E 24 0) ∧ rf M' x = tuF f N C (ntf f N C) (inf f N C (ntf f N C)) r (if r = 0 then E 641 (fe6 E 24 0) else E 630 (2 * fe6 E 24 0)) (if r = 0 then E 642 (fe6 E 24 0) else E 631 (2 * fe6 E 24 0)) ∧ OX T M' x)))
noncomputable def TU6 (T M' : jm) (x r : Int) : Prop := ((x < 0 ∨ 23 < x ∨ T 600 x = -1) ∧ r = -2 ∧ M' = T) ∨ (((0 ≤ x ∧ x ≤ 23) ∧ T 600 x ≠ -1) ∧ ∃ C : Int, HE (rf T x) (T 600 x) C ∧ TU7 T M' (rf T x) (T 600 x) C x r)
theorem TU6.h0 {T H : jm} {x z : Int} (hx : (0 ≤ x ∧ x ≤ 23) ∧ T 600 x ≠ -1) (hz : z = 0) (hn : HN6 T H x z) (fH : ∀ (a : Nat) (i : Int), a ≠ 598 → a ≠ 603 → a ≠ 604 → a ≠ 605 → H a i = T a i) : TU6 T H x (-4) := by
  obtain ⟨h1, ⟨h2, h3⟩, h4⟩ := hn
  refine Or.inr ⟨hx, _, h2, Or.inl ⟨?_, rfl, fun i => fH 601 i (by decide) (by decide) (by decide) (by decide)⟩⟩
  rw [← heG_i h3]
  rcases h4 with h4 | h4
  · exact h4.1
  · omega
theorem TU6.n {T H E M' : jm} {x z g r : Int} (hx : (0 ≤ x ∧ x ≤ 23) ∧ T 600 x ≠ -1) (hz : z ≠ 0) (hn : HN6 T H x z) (fH : ∀ (a : Nat) (i : Int), a ≠ 598 → a ≠ 603 → a ≠ 604 → a ≠ 605 → H a i = T a i) (f2 : H 598 2 = T 598 2) (hb : g = fe6 H 24 0) (fE : ∀ (a : Nat) (i : Int), a ≠ 598 → E a i = H a i) (gE : ∀ (i : Int), i ≠ 66 → E 598 i = H 598 i) (h : ((g = -1 ∨ E 640 g = -1) ∧ r = -4 ∧ ∀ i : Int, M' 601 i = T 601 i) ∨ ((g ≠ -1 ∧ E 640 g ≠ -1) ∧ r = sd6 H g ∧ rf M' x = tuF (rf T x) (T 600 x) (H 598 6) (ntf (rf T x) (T 600 x) (H 598 6)) (H 598 65) r (if r = 0 then E 641 g else E 630 (2 * g)) (if r = 0 then E 642 g else E 631 (2 * g)) ∧ OX T M' x)) : TU6 T M' x r := by
  have te := TRE.m hn fH f2 (fun _ _ _ => rfl) (fun _ _ _ _ _ _ _ _ => rfl) fE gE
  obtain ⟨h1, ⟨h2, h3⟩, h4⟩ := hn
  rcases h4 with h4 | h4
  · exact absurd h4.2 hz
  have e5 := h4.2.2.2
  refine Or.inr ⟨hx, _, h2, Or.inr ⟨(heG_i h3).1 h4.1, E, te, h4.2.2.e gE, ?_⟩⟩
  rw [e5] at h
  rw [(fe6_b fE gE).2, (fe6_b fE gE).1, ← hb]
  exact h
theorem HT.fr1 {M M1 : jm} {f : Int → Int} {N C : Int} (h : HT M f N C) (g : ∀ (b : Nat) (i : Int), b ≠ 601 → M1 b i = M b i) : HT M1 f N C := by
  refine ⟨by rw [g 598 6 (by decide)]; exact h.1, ?_, h.2.2⟩
  intro i h0 h1
  have q := h.2.1 i h0 h1
  rw [g (602 + 1) i (by decide), g (602 + 2) i (by decide), g (602 + 3) i (by decide)]
  exact q
theorem r_turn_x {A : Nat → Option (Nat × (Nat → Int32))} {Q : Option Value → jm → Prop} {M : jm} (hI_M : RI M) (hH_M : RH M) (hS_M : RF M) {x : Int} (h_x : (-2147483648) ≤ x ∧ x ≤ 2147483647) (q : ∀ (r : Int) (M' : jm), RI M' → RH M' → RF M' → (-4) ≤ r ∧ r ≤ 1 → TU6 M M' x r → (∀ (a : Nat) (i : Int), a ≠ 598 → a ≠ 601 → a ≠ 603 → a ≠ 604 → a ≠ 605 → M' a i = M a i) → (∀ (i : Int), i ≠ 6 → i ≠ 10 → i ≠ 11 → i ≠ 12 → i ≠ 59 → i ≠ 60 → i ≠ 61 → i ≠ 62 → i ≠ 63 → i ≠ 64 → i ≠ 65 → i ≠ 66 → M' 598 i = M 598 i) → Q (some (.int (Int32.ofInt r))) M') : jc A 8 322 [.ref (598), .int (Int32.ofInt (x))] M Q := by
  refine jc_of (m := xm_322) rfl (Nat.le_of_ble_eq_true rfl) rfl ?_
  refine jr.aload_n rfl rfl ?_
  refine jr.iload_n rfl rfl ?_
  refine jr_v rfl rfl (Or.inl rfl) rfl rfl (by decide) rfl ⟨rfl, Nat.le_of_ble_eq_true rfl, Nat.le_of_ble_eq_true rfl⟩ rfl (jc.deep (c_isThere hI_M (by omega) (fun l2 u2 t2 => ?_) (fun n2 => ?_)) (by decide))
  · refine jr.if_ne rfl rfl (by omega) (fun _ => ?_) (fun h => absurd (by decide) h)
    refine jr.aload_n rfl rfl ?_
    refine jr.iload_n rfl rfl ?_
    obtain ⟨v2, e2⟩ : ∃ z, M 600 x = z := ⟨_, rfl⟩
    have b2 : (-1) ≤ v2 ∧ v2 ≤ 400 := by rw [← e2]; exact (by have q := hI_M 600 x (by decide); rw [xri_row rfl rfl] at q; exact q)
    refine jr_v rfl rfl (Or.inl rfl) rfl rfl (by decide) rfl ⟨rfl, Nat.le_of_ble_eq_true rfl, Nat.le_of_ble_eq_true rfl⟩ rfl (jc.deep (r_hasEnds_x hI_M hH_M hS_M  (by omega) (by rw [e2]; omega) (fun r1 M1 hI_M1 hH_M1 hS_M1  z1 w1_0 w1_1 w1_2 w1_3 => ?_)) (by decide))
    refine jr.if_ne rfl rfl (by omega) (fun h16 => ?_) (fun h16 => ?_)
    · have sx16 : (1 : Int) ≤ r1 := by omega
      refine jr.aload_n rfl rfl ?_
      refine jr_v rfl rfl (Or.inl rfl) rfl rfl (by decide) rfl ⟨rfl, Nat.le_of_ble_eq_true rfl, Nat.le_of_ble_eq_true rfl⟩ rfl (jc.deep (r_flowByEnds_x hI_M1 hH_M1 hS_M1    (fun r3 M3 hI_M3 hH_M3 hS_M3  z3 w3_0 w3_1 w3_2 w3_3 => ?_)) (by decide))
      have q3 := w1_0.resolve_left (by omega)
      obtain ⟨re1, re2, re3, re4, re5, tt, rt0, rt1, rt2⟩ := q3
      obtain ⟨ea, hea⟩ : ∃ z, M1 598 65 = z := ⟨_, rfl⟩
      rw [hea] at re1 re2 re3 re4
      have rc := RH.car hH_M1 ea
      have b65 : M1 598 6 ≤ 12 := (hI_M1 598 6 (by decide)).2
      refine jr.istore_n rfl (by decide) rfl ?_
      refine jr.iload_n rfl rfl ?_
      refine jr.iconst rfl ?_
      refine jr.icmp_eq rfl rfl (by omega) (by omega) (fun h29 => ?_) (fun h29 => ?_)
      · refine jr.bipush rfl (by decide) ?_
        exact jr.ireturn rfl rfl rfl (q _ _ hI_M3 hH_M3 hS_M3  (by omega) (TU6.n ⟨⟨by omega, by omega⟩, by omega⟩ (by omega) w1_1 w1_2 (w1_3 2 (by decide) (by decide) (by decide) (by decide) (by decide) (by decide) (by decide) (by decide) (by decide) (by decide) (by decide)) w3_1.1 w3_2 w3_3 (by exact Or.inl ⟨by first | (left; omega) | (right; omega), rfl, (fun i => (w3_2 601 i (by decide)).trans (w1_2 601 i (by decide) (by decide) (by decide) (by decide)))⟩)) (fun a i f598 f601 f603 f604 f605 => ((w3_2 a i f598).trans ((w1_2 a i f598 f603 f604 f605).trans rfl))) (fun i g6 g10 g11 g12 g59 g60 g61 g62 g63 g64 g65 g66 => ((w3_3 i g66).trans ((w1_3 i g6 g10 g11 g12 g59 g60 g61 g62 g63 g64 g65).trans rfl))))
      · have sx29 : (0 : Int) ≤ r3 := by omega
        refine jr.aload_n rfl rfl ?_
        refine jr.getf (i := 52) (v := .ref 640) rfl rfl (by decide) rfl (by decide) rfl rfl rfl rfl ?_
        refine jr.iload_n rfl rfl ?_
        obtain ⟨v4, e4⟩ : ∃ z, M 640 r3 = z := ⟨_, rfl⟩
        have b4 : (-1) ≤ v4 ∧ v4 ≤ 3 := by rw [← e4]; exact (by have q := hI_M 640 r3 (by decide); rw [xri_row rfl rfl] at q; exact q)
        have e5 : M1 640 r3 = v4 := ((w1_2 640 r3 (by decide) (by decide) (by decide) (by decide)).trans e4)
        have e6 : M3 640 r3 = v4 := ((w3_2 640 r3 (by decide)).trans e5)
        refine jr.iald (i := r3) (x := v4) rfl (by decide) rfl (by decide) (by omega) (by omega) e6 ?_
        refine jr.iconst rfl ?_
        refine jr.icmp_ne rfl rfl (by omega) (by omega) (fun h39 => ?_) (fun h39 => ?_)
        · have sx39 : (0 : Int) ≤ v4 := by omega
          refine jr.aload_n rfl rfl ?_
          refine jr_v rfl rfl (Or.inl rfl) rfl rfl (by decide) rfl ⟨rfl, Nat.le_of_ble_eq_true rfl, Nat.le_of_ble_eq_true rfl⟩ rfl (jc.deep (r_net_x hI_M3 hH_M3 hS_M3   (HT.q w1_1.1 (fun b i hb => w3_2 b i hb) (w3_3 6 (by decide))) (fun r7 z7 w7_0 w7_1 w7_2 w7_3 => ?_)) (by decide))
          have h66 := w3_3 6 (by decide)
          have rn : ¬ r7 = -1 := by
            intro z
            have z1 := w7_1 z tt rt0 (by rw [w3_3 6 (by decide)]; exact rt1)
            rw [w3_2 603 tt (by decide)] at z1
            omega
          refine jr.istore_n rfl (by decide) rfl ?_
          refine jr.aload_n rfl rfl ?_
          refine jr.getf (i := 8) (v := .ref 604) rfl rfl (by decide) rfl (by decide) rfl rfl rfl rfl ?_
          refine jr.aload_n rfl rfl ?_
          have e8 : M3 598 65 = ea := ((w3_3 65 (by decide)).trans hea)
          refine jr.getf (i := 65) (x := ea) (v := .int (Int32.ofInt (ea))) rfl rfl (by decide) rfl (by decide) rfl rfl e8 rfl ?_
          obtain ⟨v9, e9⟩ : ∃ z, M1 604 ea = z := ⟨_, rfl⟩
          have b9 : 0 ≤ v9 ∧ v9 ≤ 400 := by rw [← e9]; exact (by have q := hI_M1 604 ea (by decide); rw [xri_row rfl rfl] at q; exact q)
          have e10 : M3 604 ea = v9 := ((w3_2 604 ea (by decide)).trans e9)
          refine jr.iald (i := ea) (x := v9) rfl (by decide) rfl (by decide) (by omega) (by omega) e10 ?_
          refine jr.istore rfl (by decide) rfl ?_
          refine jr.aload_n rfl rfl ?_
          obtain ⟨v11, e11⟩ : ∃ z, M3 598 66 = z := ⟨_, rfl⟩
          have b11 : (-1) ≤ v11 ∧ v11 ≤ 1 := by rw [← e11]; exact hI_M3 598 66 (by decide)
          refine jr.getf (i := 66) (x := v11) (v := .int (Int32.ofInt (v11))) rfl rfl (by decide) rfl (by decide) rfl rfl e11 rfl ?_
          refine jr.if_ne rfl rfl (by omega) (fun h65 => ?_) (fun h65 => ?_)
          · refine jr.aload_n rfl rfl ?_
            refine jr.iload_n rfl rfl ?_
            refine jr.aload_n rfl rfl ?_
            refine jr.getf (i := 8) (v := .ref 604) rfl rfl (by decide) rfl (by decide) rfl rfl rfl rfl ?_
            refine jr.iload_n rfl rfl ?_
            obtain ⟨v12, e12⟩ : ∃ z, M1 604 r7 = z := ⟨_, rfl⟩
            have b12 : 0 ≤ v12 ∧ v12 ≤ 400 := by rw [← e12]; exact (by have q := hI_M1 604 r7 (by decide); rw [xri_row rfl rfl] at q; exact q)
            have e13 : M3 604 r7 = v12 := ((w3_2 604 r7 (by decide)).trans e12)
            refine jr.iald (i := r7) (x := v12) rfl (by decide) rfl (by decide) (by omega) (by omega) e13 ?_
            refine jr.bipush rfl (by decide) ?_
            refine jr.iadd rfl ?_
            refine jr.aload_n rfl rfl ?_
            refine jr.getf (i := 42) (v := .ref 630) rfl rfl (by decide) rfl (by decide) rfl rfl rfl rfl ?_
            refine jr.iconst rfl ?_
            refine jr.iload_n rfl rfl ?_
            refine jr.imul rfl ?_
            obtain ⟨v14, e14⟩ : ∃ z, M 630 (2 * r3) = z := ⟨_, rfl⟩
            have b14 : (-9223372036854775808) ≤ v14 ∧ v14 ≤ 9223372036854775807 := by rw [← e14]; exact (by have q := hI_M 630 (2 * r3) (by decide); rw [xri_row rfl rfl] at q; exact q)
            have e15 : M1 630 (2 * r3) = v14 := ((w1_2 630 (2 * r3) (by decide) (by decide) (by decide) (by decide)).trans e14)
            have e16 : M3 630 (2 * r3) = v14 := ((w3_2 630 (2 * r3) (by decide)).trans e15)
            refine jr.lald (i := (2 * r3)) (x := v14) rfl (by decide) rfl (by decide) (by omega) (by omega) e16 ?_
            refine jr_v rfl rfl (Or.inl rfl) rfl rfl (by decide) rfl ⟨rfl, Nat.le_of_ble_eq_true rfl, Nat.le_of_ble_eq_true rfl⟩ rfl (jc.deep (r_layFour_x hI_M3 hH_M3 hS_M3  (by omega) (by omega) (by omega)  (fun M17 hI_M17 hH_M17 hS_M17  w17_0 w17_1 w17_2 => ?_)) (by decide))
            refine jr.aload_n rfl rfl ?_
            refine jr.iload_n rfl rfl ?_
            refine jr.iload rfl rfl ?_
            refine jr.iconst rfl ?_
            refine jr.iadd rfl ?_
            refine jr.aload_n rfl rfl ?_
            refine jr.getf (i := 43) (v := .ref 631) rfl rfl (by decide) rfl (by decide) rfl rfl rfl rfl ?_
            refine jr.iconst rfl ?_
            refine jr.iload_n rfl rfl ?_
            refine jr.imul rfl ?_
            obtain ⟨v18, e18⟩ : ∃ z, M 631 (2 * r3) = z := ⟨_, rfl⟩
            have b18 : 0 ≤ v18 ∧ v18 ≤ 65535 := by rw [← e18]; exact (by have q := hI_M 631 (2 * r3) (by decide); rw [xri_row rfl rfl] at q; exact q)
            have e19 : M1 631 (2 * r3) = v18 := ((w1_2 631 (2 * r3) (by decide) (by decide) (by decide) (by decide)).trans e18)
            have e20 : M3 631 (2 * r3) = v18 := ((w3_2 631 (2 * r3) (by decide)).trans e19)
            have e21 : M17 631 (2 * r3) = v18 := ((w17_2 631 (2 * r3) (by decide)).trans e20)
            refine jr.iald (i := (2 * r3)) (x := v18) rfl (by decide) rfl (by decide) (by omega) (by omega) e21 ?_
            refine jr_v rfl rfl (Or.inl rfl) rfl rfl (by decide) rfl ⟨rfl, Nat.le_of_ble_eq_true rfl, Nat.le_of_ble_eq_true rfl⟩ rfl (jc.deep (r_layTwo_x hI_M17 hH_M17 hS_M17  (by omega) (by omega) (by omega)  (fun M22 hI_M22 hH_M22 hS_M22  w22_0 w22_1 w22_2 => ?_)) (by decide))
            refine jr.aload_n rfl rfl ?_
            refine jr.iload_n rfl rfl ?_
            refine jr.aload_n rfl rfl ?_
            have e23 : M17 598 65 = ea := ((w17_2 598 65 (by decide)).trans e8)
            have e24 : M22 598 65 = ea := ((w22_2 598 65 (by decide)).trans e23)
            refine jr.getf (i := 65) (x := ea) (v := .int (Int32.ofInt (ea))) rfl rfl (by decide) rfl (by decide) rfl rfl e24 rfl ?_
            have e26 : M1 600 x = v2 := ((w1_2 600 x (by decide) (by decide) (by decide) (by decide)).trans e2)
            have e27 : M3 600 x = v2 := ((w3_2 600 x (by decide)).trans e26)
            have e28 : M17 600 x = v2 := ((w17_2 600 x (by decide)).trans e27)
            have e29 : M22 600 x = v2 := ((w22_2 600 x (by decide)).trans e28)
            refine jr_v rfl rfl (Or.inl rfl) rfl rfl (by decide) rfl ⟨rfl, Nat.le_of_ble_eq_true rfl, Nat.le_of_ble_eq_true rfl⟩ rfl (jc.deep (r_right_x hI_M22 hH_M22 hS_M22  (by omega) (by omega) (HT.fr1 (HT.fr1 (HT.q w1_1.1 (fun b i hb => w3_2 b i hb) (w3_3 6 (by decide))) w17_2) w22_2) (by omega) (e29.trans e2.symm) (fun r25 M25 hI_M25 hH_M25 hS_M25  z25 w25_0 w25_1 w25_2 => ?_)) (by decide))
            refine jr.istore rfl (by decide) rfl ?_
            refine jr.aload_n rfl rfl ?_
            refine jr.iload_n rfl rfl ?_
            refine jr.iload_n rfl rfl ?_
            have e31 : M25 600 x = v2 := ((w25_2 600 x (by decide)).trans e29)
            refine jr_v rfl rfl (Or.inl rfl) rfl rfl (by decide) rfl ⟨rfl, Nat.le_of_ble_eq_true rfl, Nat.le_of_ble_eq_true rfl⟩ rfl (jc.deep (r_right_x hI_M25 hH_M25 hS_M25  (by omega) (by omega) (HT.fr1 (HT.fr1 (HT.fr1 (HT.q w1_1.1 (fun b i hb => w3_2 b i hb) (w3_3 6 (by decide))) w17_2) w22_2) w25_2) (by omega) (e31.trans e2.symm) (fun r30 M30 hI_M30 hH_M30 hS_M30  z30 w30_0 w30_1 w30_2 => ?_)) (by decide))
            refine jr.istore rfl (by decide) rfl ?_
            refine jr.aload_n rfl rfl ?_
            have e32 : M17 598 66 = v11 := ((w17_2 598 66 (by decide)).trans e11)
            have e33 : M22 598 66 = v11 := ((w22_2 598 66 (by decide)).trans e32)
            have e34 : M25 598 66 = v11 := ((w25_2 598 66 (by decide)).trans e33)
            have e35 : M30 598 66 = v11 := ((w30_2 598 66 (by decide)).trans e34)
            refine jr.getf (i := 66) (x := v11) (v := .int (Int32.ofInt (v11))) rfl rfl (by decide) rfl (by decide) rfl rfl e35 rfl ?_
            exact jr.ireturn rfl rfl rfl (q _ _ hI_M30 hH_M30 hS_M30  (by omega) (TU6.n ⟨⟨by omega, by omega⟩, by omega⟩ (by omega) w1_1 w1_2 (w1_3 2 (by decide) (by decide) (by decide) (by decide) (by decide) (by decide) (by decide) (by decide) (by decide) (by decide) (by decide)) w3_1.1 w3_2 w3_3 (by have hn : r7 = ntf (rf M x) (M 600 x) (M1 598 6) := w7_3; have hr66 : sd6 M1 r3 = v11 := (by rw [← (w3_1.2.resolve_left (by omega)), e11]); have ha1 : hY (rf M x) (M 600 x) r7 = v12 := (by rw [← (HT.f (HT.q w1_1.1 (fun b i hb => w3_2 b i hb) (w3_3 6 (by decide))) (x := r7) (by omega)).2.1]; exact e13); have ha2 : hY (rf M x) (M 600 x) ea = v9 := (by rw [← (HT.f (HT.q w1_1.1 (fun b i hb => w3_2 b i hb) (w3_3 6 (by decide))) (x := ea) (by omega)).2.1]; exact e10); exact Or.inr ⟨⟨by omega, by rw [e6]; omega⟩, by rw [hr66], (by rw [(show M1 598 65 = ea from hea), ← hn, w30_0.2, w25_0.2, w22_0, w17_0, (show rf M3 x = rf M x from rf_e (fun i => (w3_2 601 i (by decide)).trans (w1_2 601 i (by decide) (by decide) (by decide) (by decide))))]; unfold tuF; rw [ha1, ha2]; simp only [if_neg (show v11 ≠ 0 by omega)]; rw [e16, e20]; first | done | rfl | (congr 3; omega)), (fun j hj => (w30_1 j hj).trans ((w25_1 j hj).trans ((w22_1 j hj).trans ((w17_1 j hj).trans ((fun i => (w3_2 601 i (by decide)).trans (w1_2 601 i (by decide) (by decide) (by decide) (by decide))) j)))))⟩)) (fun a i f598 f601 f603 f604 f605 => ((w30_2 a i f601).trans ((w25_2 a i f601).trans ((w22_2 a i f601).trans ((w17_2 a i f601).trans ((w3_2 a i f598).trans ((w1_2 a i f598 f603 f604 f605).trans rfl))))))) (fun i g6 g10 g11 g12 g59 g60 g61 g62 g63 g64 g65 g66 => ((w30_2 598 i (by decide)).trans ((w25_2 598 i (by decide)).trans ((w22_2 598 i (by decide)).trans ((w17_2 598 i (by decide)).trans ((w3_3 i g66).trans ((w1_3 i g6 g10 g11 g12 g59 g60 g61 g62 g63 g64 g65).trans rfl))))))))
          · refine jr.aload_n rfl rfl ?_
            refine jr.iload_n rfl rfl ?_
            refine jr.aload_n rfl rfl ?_
            refine jr.getf (i := 8) (v := .ref 604) rfl rfl (by decide) rfl (by decide) rfl rfl rfl rfl ?_
            refine jr.iload_n rfl rfl ?_
            obtain ⟨v36, e36⟩ : ∃ z, M1 604 r7 = z := ⟨_, rfl⟩
            have b36 : 0 ≤ v36 ∧ v36 ≤ 400 := by rw [← e36]; exact (by have q := hI_M1 604 r7 (by decide); rw [xri_row rfl rfl] at q; exact q)
            have e37 : M3 604 r7 = v36 := ((w3_2 604 r7 (by decide)).trans e36)
            refine jr.iald (i := r7) (x := v36) rfl (by decide) rfl (by decide) (by omega) (by omega) e37 ?_
            refine jr.bipush rfl (by decide) ?_
            refine jr.iadd rfl ?_
            refine jr.aload_n rfl rfl ?_
            refine jr.getf (i := 53) (v := .ref 641) rfl rfl (by decide) rfl (by decide) rfl rfl rfl rfl ?_
            refine jr.iload_n rfl rfl ?_
            obtain ⟨v38, e38⟩ : ∃ z, M 641 r3 = z := ⟨_, rfl⟩
            have b38 : (-9223372036854775808) ≤ v38 ∧ v38 ≤ 9223372036854775807 := by rw [← e38]; exact (by have q := hI_M 641 r3 (by decide); rw [xri_row rfl rfl] at q; exact q)
            have e39 : M1 641 r3 = v38 := ((w1_2 641 r3 (by decide) (by decide) (by decide) (by decide)).trans e38)
            have e40 : M3 641 r3 = v38 := ((w3_2 641 r3 (by decide)).trans e39)
            refine jr.lald (i := r3) (x := v38) rfl (by decide) rfl (by decide) (by omega) (by omega) e40 ?_
            refine jr_v rfl rfl (Or.inl rfl) rfl rfl (by decide) rfl ⟨rfl, Nat.le_of_ble_eq_true rfl, Nat.le_of_ble_eq_true rfl⟩ rfl (jc.deep (r_layFour_x hI_M3 hH_M3 hS_M3  (by omega) (by omega) (by omega)  (fun M41 hI_M41 hH_M41 hS_M41  w41_0 w41_1 w41_2 => ?_)) (by decide))
            refine jr.aload_n rfl rfl ?_
            refine jr.iload_n rfl rfl ?_
            refine jr.iload rfl rfl ?_
            refine jr.aload_n rfl rfl ?_
            refine jr.getf (i := 54) (v := .ref 642) rfl rfl (by decide) rfl (by decide) rfl rfl rfl rfl ?_
            refine jr.iload_n rfl rfl ?_
            obtain ⟨v42, e42⟩ : ∃ z, M 642 r3 = z := ⟨_, rfl⟩
            have b42 : 0 ≤ v42 ∧ v42 ≤ 70000 := by rw [← e42]; exact (by have q := hI_M 642 r3 (by decide); rw [xri_row rfl rfl] at q; exact q)
            have e43 : M1 642 r3 = v42 := ((w1_2 642 r3 (by decide) (by decide) (by decide) (by decide)).trans e42)
            have e44 : M3 642 r3 = v42 := ((w3_2 642 r3 (by decide)).trans e43)
            have e45 : M41 642 r3 = v42 := ((w41_2 642 r3 (by decide)).trans e44)
            refine jr.iald (i := r3) (x := v42) rfl (by decide) rfl (by decide) (by omega) (by omega) e45 ?_
            refine jr_v rfl rfl (Or.inl rfl) rfl rfl (by decide) rfl ⟨rfl, Nat.le_of_ble_eq_true rfl, Nat.le_of_ble_eq_true rfl⟩ rfl (jc.deep (r_layTwo_x hI_M41 hH_M41 hS_M41  (by omega) (by omega) (by omega)  (fun M46 hI_M46 hH_M46 hS_M46  w46_0 w46_1 w46_2 => ?_)) (by decide))
            refine jr.goto rfl rfl ?_
            refine jr.aload_n rfl rfl ?_
            refine jr.iload_n rfl rfl ?_
            refine jr.aload_n rfl rfl ?_
            have e47 : M41 598 65 = ea := ((w41_2 598 65 (by decide)).trans e8)
            have e48 : M46 598 65 = ea := ((w46_2 598 65 (by decide)).trans e47)
            refine jr.getf (i := 65) (x := ea) (v := .int (Int32.ofInt (ea))) rfl rfl (by decide) rfl (by decide) rfl rfl e48 rfl ?_
            have e50 : M1 600 x = v2 := ((w1_2 600 x (by decide) (by decide) (by decide) (by decide)).trans e2)
            have e51 : M3 600 x = v2 := ((w3_2 600 x (by decide)).trans e50)
            have e52 : M41 600 x = v2 := ((w41_2 600 x (by decide)).trans e51)
            have e53 : M46 600 x = v2 := ((w46_2 600 x (by decide)).trans e52)
            refine jr_v rfl rfl (Or.inl rfl) rfl rfl (by decide) rfl ⟨rfl, Nat.le_of_ble_eq_true rfl, Nat.le_of_ble_eq_true rfl⟩ rfl (jc.deep (r_right_x hI_M46 hH_M46 hS_M46  (by omega) (by omega) (HT.fr1 (HT.fr1 (HT.q w1_1.1 (fun b i hb => w3_2 b i hb) (w3_3 6 (by decide))) w41_2) w46_2) (by omega) (e53.trans e2.symm) (fun r49 M49 hI_M49 hH_M49 hS_M49  z49 w49_0 w49_1 w49_2 => ?_)) (by decide))
            refine jr.istore rfl (by decide) rfl ?_
            refine jr.aload_n rfl rfl ?_
            refine jr.iload_n rfl rfl ?_
            refine jr.iload_n rfl rfl ?_
            have e55 : M49 600 x = v2 := ((w49_2 600 x (by decide)).trans e53)
            refine jr_v rfl rfl (Or.inl rfl) rfl rfl (by decide) rfl ⟨rfl, Nat.le_of_ble_eq_true rfl, Nat.le_of_ble_eq_true rfl⟩ rfl (jc.deep (r_right_x hI_M49 hH_M49 hS_M49  (by omega) (by omega) (HT.fr1 (HT.fr1 (HT.fr1 (HT.q w1_1.1 (fun b i hb => w3_2 b i hb) (w3_3 6 (by decide))) w41_2) w46_2) w49_2) (by omega) (e55.trans e2.symm) (fun r54 M54 hI_M54 hH_M54 hS_M54  z54 w54_0 w54_1 w54_2 => ?_)) (by decide))
            refine jr.istore rfl (by decide) rfl ?_
            refine jr.aload_n rfl rfl ?_
            have e56 : M41 598 66 = v11 := ((w41_2 598 66 (by decide)).trans e11)
            have e57 : M46 598 66 = v11 := ((w46_2 598 66 (by decide)).trans e56)
            have e58 : M49 598 66 = v11 := ((w49_2 598 66 (by decide)).trans e57)
            have e59 : M54 598 66 = v11 := ((w54_2 598 66 (by decide)).trans e58)
            refine jr.getf (i := 66) (x := v11) (v := .int (Int32.ofInt (v11))) rfl rfl (by decide) rfl (by decide) rfl rfl e59 rfl ?_
            exact jr.ireturn rfl rfl rfl (q _ _ hI_M54 hH_M54 hS_M54  (by omega) (TU6.n ⟨⟨by omega, by omega⟩, by omega⟩ (by omega) w1_1 w1_2 (w1_3 2 (by decide) (by decide) (by decide) (by decide) (by decide) (by decide) (by decide) (by decide) (by decide) (by decide) (by decide)) w3_1.1 w3_2 w3_3 (by have hn : r7 = ntf (rf M x) (M 600 x) (M1 598 6) := w7_3; have hr66 : sd6 M1 r3 = v11 := (by rw [← (w3_1.2.resolve_left (by omega)), e11]); have ha1 : hY (rf M x) (M 600 x) r7 = v36 := (by rw [← (HT.f (HT.q w1_1.1 (fun b i hb => w3_2 b i hb) (w3_3 6 (by decide))) (x := r7) (by omega)).2.1]; exact e37); have ha2 : hY (rf M x) (M 600 x) ea = v9 := (by rw [← (HT.f (HT.q w1_1.1 (fun b i hb => w3_2 b i hb) (w3_3 6 (by decide))) (x := ea) (by omega)).2.1]; exact e10); exact Or.inr ⟨⟨by omega, by rw [e6]; omega⟩, by rw [hr66], (by rw [(show M1 598 65 = ea from hea), ← hn, w54_0.2, w49_0.2, w46_0, w41_0, (show rf M3 x = rf M x from rf_e (fun i => (w3_2 601 i (by decide)).trans (w1_2 601 i (by decide) (by decide) (by decide) (by decide))))]; unfold tuF; rw [ha1, ha2]; simp only [if_pos (show v11 = 0 by omega)]; rw [e40, e44]; first | done | rfl | (congr 3; omega)), (fun j hj => (w54_1 j hj).trans ((w49_1 j hj).trans ((w46_1 j hj).trans ((w41_1 j hj).trans ((fun i => (w3_2 601 i (by decide)).trans (w1_2 601 i (by decide) (by decide) (by decide) (by decide))) j)))))⟩)) (fun a i f598 f601 f603 f604 f605 => ((w54_2 a i f601).trans ((w49_2 a i f601).trans ((w46_2 a i f601).trans ((w41_2 a i f601).trans ((w3_2 a i f598).trans ((w1_2 a i f598 f603 f604 f605).trans rfl))))))) (fun i g6 g10 g11 g12 g59 g60 g61 g62 g63 g64 g65 g66 => ((w54_2 598 i (by decide)).trans ((w49_2 598 i (by decide)).trans ((w46_2 598 i (by decide)).trans ((w41_2 598 i (by decide)).trans ((w3_3 i g66).trans ((w1_3 i g6 g10 g11 g12 g59 g60 g61 g62 g63 g64 g65).trans rfl))))))))
        · refine jr.bipush rfl (by decide) ?_
          exact jr.ireturn rfl rfl rfl (q _ _ hI_M3 hH_M3 hS_M3  (by omega) (TU6.n ⟨⟨by omega, by omega⟩, by omega⟩ (by omega) w1_1 w1_2 (w1_3 2 (by decide) (by decide) (by decide) (by decide) (by decide) (by decide) (by decide) (by decide) (by decide) (by decide) (by decide)) w3_1.1 w3_2 w3_3 (by exact Or.inl ⟨Or.inr (by rw [e6]; omega), rfl, (fun i => (w3_2 601 i (by decide)).trans (w1_2 601 i (by decide) (by decide) (by decide) (by decide)))⟩)) (fun a i f598 f601 f603 f604 f605 => ((w3_2 a i f598).trans ((w1_2 a i f598 f603 f604 f605).trans rfl))) (fun i g6 g10 g11 g12 g59 g60 g61 g62 g63 g64 g65 g66 => ((w3_3 i g66).trans ((w1_3 i g6 g10 g11 g12 g59 g60 g61 g62 g63 g64 g65).trans rfl))))
    · refine jr.bipush rfl (by decide) ?_
      exact jr.ireturn rfl rfl rfl (q _ _ hI_M1 hH_M1 hS_M1  (by omega) (TU6.h0 ⟨⟨by omega, by omega⟩, by omega⟩ (by omega) w1_1 w1_2) (fun a i f598 f601 f603 f604 f605 => ((w1_2 a i f598 f603 f604 f605).trans rfl)) (fun i g6 g10 g11 g12 g59 g60 g61 g62 g63 g64 g65 g66 => ((w1_3 i g6 g10 g11 g12 g59 g60 g61 g62 g63 g64 g65).trans rfl)))
  · refine jr.if_ne rfl rfl (by omega) (fun h => absurd h (by decide)) (fun _ => ?_)
    refine jr.bipush rfl (by decide) ?_
    exact jr.ireturn rfl rfl rfl (q _ _ hI_M hH_M hS_M  (by omega) (Or.inl ⟨by omega, rfl, rfl⟩) (fun a i f598 f601 f603 f604 f605 => rfl) (fun i g6 g10 g11 g12 g59 g60 g61 g62 g63 g64 g65 g66 => rfl))
end
section
/-! ===== the class: turn ===== -/
theorem HS2.p {T M : jm} {t : Nat} {f g : Int → Int} {N S y n v : Int} (h : HS2 T t f g N) (hk : kd t = 18) (hS : T t 7 = S) (k1 : kd S.toNat = 33) (w : PN T M (S.toNat + 1) y n v n 400) : HS2 M t f (ptn g y n v) N := HS2.o h hk hS k1 w.2 (PN.by8 w (byM h hS))
theorem HS2.m {T M : jm} {t : Nat} {f g g2 : Int → Int} {N S : Int} {p : Prop} (h : HS2 T t f g N) (hk : kd t = 18) (hS : T t 7 = S) (k1 : kd S.toNat = 33) (w : p ∧ BY8 M (S.toNat + 1) g2 ∧ OR1 T M (S.toNat + 1)) : HS2 M t f g2 N := HS2.o h hk hS k1 w.2.2 w.2.1
theorem FND.n {T E : jm} {f : Int → Int} {N C F : Int} (h : FND T E f N C F 1) (h5 : E 15 5 = 0) (hC : 0 ≤ C) : (0 ≤ E 15 3 ∧ E 15 3 < C) ∧ (0 ≤ E 15 4 ∧ E 15 4 < C) := by
  refine ⟨?_, (FND.k h h5).1⟩
  rcases h with h | h
  · exact absurd h.2.1 (by decide)
  · rw [h.2.2.2.1.1]
    have q := h.1.2.1
    rcases ntf_r (f := f) (N := N) (C := C) hC with u | u
    · exact absurd u q
    · exact u.1
noncomputable def RWQ (T M : jm) (f : Int → Int) (N C F : Int) (V : Nat) (S r : Int) : Prop := (FND T M f N C F 0 ∧ r = -4) ∨ ∃ E : jm, FND T E f N C F 1 ∧ ((E 15 5 ≠ 0 ∧ r = -4 ∧ M = E) ∨ (E 15 5 = 0 ∧ (feF E V 24 0 = -1 ∨ E (xe V (feF E V 24 0)) 13 = -1) ∧ r = -4 ∧ M = E) ∨ (E 15 5 = 0 ∧ (feF E V 24 0 ≠ -1 ∧ E (xe V (feF E V 24 0)) 13 ≠ -1) ∧ r = sdF E (xe V (feF E V 24 0)) 18 ∧ BY8 M (S.toNat + 1) (tuF f N C (E 15 3) (E 15 4) r (if r = 0 then E (xe V (feF E V 24 0)) 14 else E (xe V (feF E V 24 0) + 1) 0) (if r = 0 then E (xe V (feF E V 24 0)) 15 else E (xe V (feF E V 24 0) + 2) 0)) ∧ OR1 E M (S.toNat + 1)))
noncomputable def W_c_Flows_rewrite_x : List (Nat × Nat) := [(1, 1), (1, 2), (2, 1000), (7, 1000), (9, 3), (9, 4), (9, 5), (34, 1000)]
theorem c_Flows_rewrite_x {A : Nat → Option (Nat × (Nat → Int32))} {Q : Option Value → jm → Prop} {f : Int → Int} {N : Int} {T : jm} {M : jm} (hC_M : CI M) (ht_M : FR W_c_Flows_rewrite_x T M) {C : Int} (g_C : M 3 3 = C) {F : Int} (g_F : M 3 4 = F) {S : Int} (g_S : M 3 7 = S) {V : Int} (g_V : M 15 0 = V) (p0 : T = M) (p1 : HS M 3 f N) (q : ∀ (r : Int) (M' : jm), CI M' → FR W_c_Flows_rewrite_x T M' → (-4) ≤ r ∧ r ≤ 1 → (RWQ T M' f N C F V.toNat S r) → Q (some (.int (Int32.ofInt r))) M') : jc A 6 82 [.ref (15), .ref (3)] M Q := by
  refine jc_of (m := xm_82) rfl (Nat.le_of_ble_eq_true rfl) rfl ?_
  have b_C : 0 ≤ C ∧ C ≤ 12 := by rw [← g_C]; exact (CI.r hC_M (show kd 3 = 18 from rfl) (by decide) 3)
  have b_F : (-2147483648) ≤ F ∧ F ≤ 2147483647 := by rw [← g_F]; exact (CI.r hC_M (show kd 3 = 18 from rfl) (by decide) 4)
  have k_S : kd S.toNat = 33 := (congrArg (fun z : Int => kd z.toNat) g_S).symm.trans (CI.x hC_M (show kd 3 = 18 from rfl) 7 rfl (by decide))
  have b_V : 16 ≤ V ∧ V ≤ 17 := by rw [← g_V]; exact (CI.r hC_M (show kd 15 = 9 from rfl) (by decide) 0)
  refine jr.aload_n rfl rfl ?_
  refine jr.aload_n rfl rfl ?_
  refine jr_v rfl rfl (Or.inl rfl) rfl rfl (by decide) rfl ⟨rfl, Nat.le_of_ble_eq_true rfl, Nat.le_of_ble_eq_true rfl⟩ rfl (jc.deep (c_Flows_findEnds_x hC_M (FR.rfl _ M)  g_C g_F rfl p1 (fun r1 M1 hC_M1 hf_M1 z1 w1_0 => ?_)) (by decide))
  have ht_M1 : FR W_c_Flows_rewrite_x T M1 := FR.t ht_M hf_M1 (kw_sub rfl)
  refine jr.if_eq rfl rfl (by omega) (fun h5 => ?_) (fun h5 => ?_)
  · refine jr.bipush rfl (by decide) ?_
    exact jr.ireturn rfl rfl rfl (q _ _ hC_M1 ht_M1 (by omega) (by rw [p0]; exact Or.inl ⟨by have h9 := w1_0; rw [show r1 = 0 from by omega] at h9; exact h9, rfl⟩))
  · have sx5 : (1 : Int) ≤ r1 := by omega
    refine jr.aload_n rfl rfl ?_
    obtain ⟨v2, e2⟩ : ∃ z_, M1 15 5 = z_ := ⟨_, rfl⟩
    have b2 : 0 ≤ v2 ∧ v2 ≤ 1 := by rw [← e2]; exact (CI.r hC_M1 (show kd 15 = 9 from rfl) (by decide) 5)
    refine jr.getf (i := 5) (x := v2) (v := .int (Int32.ofInt (v2))) rfl rfl (by decide) rfl (by decide) rfl rfl e2 rfl ?_
    refine jr.if_eq rfl rfl (by omega) (fun h12 => ?_) (fun h12 => ?_)
    · refine jr.aload_n rfl rfl ?_
      have e4 : M1 15 0 = V := (hf_M1.g (show kd 15 = 9 from rfl) rfl).trans g_V
      refine jr_v rfl rfl (Or.inl rfl) rfl rfl (by decide) rfl ⟨rfl, Nat.le_of_ble_eq_true rfl, Nat.le_of_ble_eq_true rfl⟩ rfl (jc.deep (c_Flows_flowOfEnds_x hC_M1  e4 (fun r3 z3 w3_0 => ?_)) (by decide))
      have hfr := feF_r M1 V.toNat 24 0 (by decide)
      rw [← w3_0] at hfr
      refine jr.istore_n rfl (by decide) rfl ?_
      refine jr.iload_n rfl rfl ?_
      refine jr.iconst rfl ?_
      refine jr.icmp_eq rfl rfl (by omega) (by omega) (fun h25 => ?_) (fun h25 => ?_)
      · refine jr.bipush rfl (by decide) ?_
        exact jr.ireturn rfl rfl rfl (q _ _ hC_M1 ht_M1 (by omega) (by rw [p0]; exact Or.inr ⟨M1, (show FND M M1 f N C F 1 from by have h9 := w1_0; rw [show r1 = 1 from by omega] at h9; exact h9), Or.inr (Or.inl ⟨by rw [e2]; omega, by rw [← w3_0]; exact Or.inl (by omega), rfl, rfl⟩)⟩))
      · have sx25 : (0 : Int) ≤ r3 := by omega
        refine jr.aload_n rfl rfl ?_
        have k5 : kd (V).toNat = 13 := by rcases (show V = 16 ∨ V = 17 by omega) with h | h <;> (rw [h]; rfl)
        refine jr.getf (i := 0) (x := V) (v := .ref (V.toNat)) rfl rfl (by decide) rfl (by decide) rfl rfl e4 rfl ?_
        refine jr.iload_n rfl rfl ?_
        have k6 := kxe_13 k5 (i := r3) (by omega) (by omega)
        refine jr.aald (c := (xe ((V.toNat)) r3)) rfl (Nat.lt_trans (kx_13 k5).1 (by decide)) (kx_13 k5).2 (by decide) (by decide) rfl (by decide) (by omega) (by omega) k6.1 ?_
        obtain ⟨v7, e7⟩ : ∃ z_, M ((xe ((V.toNat)) r3)) 13 = z_ := ⟨_, rfl⟩
        have b7 : (-2147483648) ≤ v7 ∧ v7 ≤ 2147483647 := by rw [← e7]; exact (CI.r hC_M k6.2 (by decide) 13)
        have e8 : M1 ((xe ((V.toNat)) r3)) 13 = v7 := (hf_M1.g k6.2 rfl).trans e7
        refine jr.getf (i := 13) (x := v7) (v := .int (Int32.ofInt (v7))) rfl rfl (Nat.lt_trans (kx_1 k6.2).1 (by decide)) (kx_1 k6.2).2 (by decide) rfl rfl e8 rfl ?_
        refine jr.iconst rfl ?_
        refine jr.icmp_ne rfl rfl (by omega) (by omega) (fun h38 => ?_) (fun h38 => ?_)
        · refine jr.aload_n rfl rfl ?_
          have k9 : kd (V).toNat = 13 := by rcases (show V = 16 ∨ V = 17 by omega) with h | h <;> (rw [h]; rfl)
          refine jr.getf (i := 0) (x := V) (v := .ref (V.toNat)) rfl rfl (by decide) rfl (by decide) rfl rfl e4 rfl ?_
          refine jr.iload_n rfl rfl ?_
          have k10 := kxe_13 k9 (i := r3) (by omega) (by omega)
          refine jr.aald (c := (xe ((V.toNat)) r3)) rfl (Nat.lt_trans (kx_13 k9).1 (by decide)) (kx_13 k9).2 (by decide) (by decide) rfl (by decide) (by omega) (by omega) k10.1 ?_
          refine jr.astore_n rfl (by decide) rfl ?_
          refine jr.aload_n rfl rfl ?_
          refine jr.aload_n rfl rfl ?_
          refine jr.getf (i := 2) (v := .ref 18) rfl rfl (by decide) rfl (by decide) rfl rfl rfl rfl ?_
          refine jr_v rfl rfl (Or.inl rfl) rfl rfl (Nat.lt_trans (kx_1 k10.2).1 (by decide)) (kx_1 k10.2).2 ⟨rfl, Nat.le_of_ble_eq_true rfl, Nat.le_of_ble_eq_true rfl⟩ rfl (jc.deep (c_Flow_sideOf_x hC_M1 k10.2 (show kd 18 = 1 from rfl) (fun r11 z11 w11_0 => ?_)) (by decide))
          obtain ⟨v12, e12⟩ : ∃ z_, M1 15 4 = z_ := ⟨_, rfl⟩
          have b12 : (-2147483648) ≤ v12 ∧ v12 ≤ 2147483647 := by rw [← e12]; exact (CI.r hC_M1 (show kd 15 = 9 from rfl) (by decide) 4)
          obtain ⟨v13, e13⟩ : ∃ z_, M1 15 3 = z_ := ⟨_, rfl⟩
          have b13 : (-2147483648) ≤ v13 ∧ v13 ≤ 2147483647 := by rw [← e13]; exact (CI.r hC_M1 (show kd 15 = 9 from rfl) (by decide) 3)
          have hsd : 0 ≤ r11 ∧ r11 ≤ 1 := (by have h9 := (hfr.resolve_left (by omega)).2; rw [← w11_0] at h9; omega)
          have hin := FND.n (show FND M M1 f N C F 1 from by have h9 := w1_0; rw [show r1 = 1 from by omega] at h9; exact h9) (by rw [e2]; omega) (by omega)
          rw [e13, e12] at hin
          refine jr.istore rfl (by decide) rfl ?_
          refine jr.aload_n rfl rfl ?_
          have e14 : M1 3 7 = S := (hf_M1.g (show kd 3 = 18 from rfl) rfl).trans g_S
          refine jr.getf (i := 7) (x := S) (v := .ref (S.toNat)) rfl rfl (by decide) rfl (by decide) rfl rfl e14 rfl ?_
          have k16 := kf_33_0 k_S
          refine jr.getf (i := 0) (v := .ref ((S.toNat) + 1)) rfl rfl (Nat.lt_trans (kx_33 k_S).1 (by decide)) (kx_33 k_S).2 (by decide) rfl rfl rfl (jval_ref rfl k16.1) ?_
          refine jr.astore rfl (by decide) rfl ?_
          refine jr.aload_n rfl rfl ?_
          refine jr.aload_n rfl rfl ?_
          refine jr.getf (i := 3) (x := v13) (v := .int (Int32.ofInt (v13))) rfl rfl (by decide) rfl (by decide) rfl rfl e13 rfl ?_
          have e18 : M1 3 3 = C := (hf_M1.g (show kd 3 = 18 from rfl) rfl).trans g_C
          refine jr_v rfl rfl (Or.inl rfl) rfl rfl (by decide) rfl ⟨rfl, Nat.le_of_ble_eq_true rfl, Nat.le_of_ble_eq_true rfl⟩ rfl (jc.deep (c_Headers_placeAt_x hC_M1 (show kd 3 = 18 from rfl) (by omega) e18 (HS.fr p1 (show kd 3 = 18 from rfl) hC_M hf_M1 rfl) (fun r17 z17 w17_0 => ?_)) (by decide))
          refine jr.iload rfl rfl ?_
          refine jr.if_ne rfl rfl (by omega) (fun h80 => ?_) (fun h80 => ?_)
          · have sx80 : (1 : Int) ≤ r11 := by omega
            refine jr.bipush rfl (by decide) ?_
            refine jr.iadd rfl ?_
            refine jr.istore rfl (by decide) rfl ?_
            refine jr.aload_n rfl rfl ?_
            refine jr.aload_n rfl rfl ?_
            refine jr.getf (i := 4) (x := v12) (v := .int (Int32.ofInt (v12))) rfl rfl (by decide) rfl (by decide) rfl rfl e12 rfl ?_
            refine jr_v rfl rfl (Or.inl rfl) rfl rfl (by decide) rfl ⟨rfl, Nat.le_of_ble_eq_true rfl, Nat.le_of_ble_eq_true rfl⟩ rfl (jc.deep (c_Headers_placeAt_x hC_M1 (show kd 3 = 18 from rfl) (by omega) e18 (HS.fr p1 (show kd 3 = 18 from rfl) hC_M hf_M1 rfl) (fun r19 z19 w19_0 => ?_)) (by decide))
            refine jr.iload rfl rfl ?_
            refine jr.if_ne rfl rfl (by omega) (fun h103 => ?_) (fun h103 => ?_)
            · refine jr.iconst rfl ?_
              refine jr.iadd rfl ?_
              refine jr.istore rfl (by decide) rfl ?_
              refine jr.aload rfl rfl ?_
              refine jr.iload rfl rfl ?_
              refine jr.iconst rfl ?_
              refine jr.iload rfl rfl ?_
              refine jr.if_ne rfl rfl (by omega) (fun h121 => ?_) (fun h121 => ?_)
              · refine jr.aload_n rfl rfl ?_
                have k20 := kf_1_3 k10.2
                refine jr.getf (i := 3) (v := .ref ((xe ((V.toNat)) r3) + 1)) rfl rfl (Nat.lt_trans (kx_1 k10.2).1 (by decide)) (kx_1 k10.2).2 (by decide) rfl rfl rfl (jval_ref rfl k20.1) ?_
                refine jr.iconst rfl ?_
                obtain ⟨v21, e21⟩ : ∃ z_, M1 (((xe ((V.toNat)) r3) + 1)) 0 = z_ := ⟨_, rfl⟩
                have b21 : (-9223372036854775808) ≤ v21 ∧ v21 ≤ 9223372036854775807 := by rw [← e21]; exact (CI.r hC_M1 k20.2 (by decide) 0)
                refine jr.lald (i := 0) (x := v21) rfl (Nat.lt_trans (kx_2 k20.2).1 (by decide)) (kx_2 k20.2).2 (by decide) (by omega) (by omega) e21 ?_
                refine jr_s rfl rfl (Or.inr rfl) ⟨Nat.le_of_ble_eq_true rfl, Nat.le_of_ble_eq_true rfl⟩ rfl rfl (jc.deep (c_PacketWall_putNumber_pf hC_M1 (FR.rfl _ M1) k16.2 (by omega) (by omega) (by omega) rfl (fun M22 hC_M22 hf_M22 w22_0 => ?_)) (by decide))
                have ht_M22 : FR W_c_Flows_rewrite_x T M22 := FR.t ht_M1 hf_M22 (kw_sub rfl)
                refine jr.aload rfl rfl ?_
                refine jr.iload rfl rfl ?_
                refine jr.iconst rfl ?_
                refine jr.iload rfl rfl ?_
                refine jr.if_ne rfl rfl (by omega) (fun h147 => ?_) (fun h147 => ?_)
                · refine jr.aload_n rfl rfl ?_
                  have k23 := kf_1_4 k10.2
                  refine jr.getf (i := 4) (v := .ref ((xe ((V.toNat)) r3) + 2)) rfl rfl (Nat.lt_trans (kx_1 k10.2).1 (by decide)) (kx_1 k10.2).2 (by decide) rfl rfl rfl (jval_ref rfl k23.1) ?_
                  refine jr.iconst rfl ?_
                  obtain ⟨v24, e24⟩ : ∃ z_, M1 (((xe ((V.toNat)) r3) + 2)) 0 = z_ := ⟨_, rfl⟩
                  have b24 : (-2147483648) ≤ v24 ∧ v24 ≤ 2147483647 := by rw [← e24]; exact (CI.r hC_M1 k23.2 (by decide) 0)
                  have e25 : M22 (((xe ((V.toNat)) r3) + 2)) 0 = v24 := (hf_M22.g k23.2 rfl).trans e24
                  refine jr.iald (i := 0) (x := v24) rfl (Nat.lt_trans (kx_7 k23.2).1 (by decide)) (kx_7 k23.2).2 (by decide) (by omega) (by omega) e25 ?_
                  refine jr.i2l rfl (by omega) ?_
                  refine jr_s rfl rfl (Or.inr rfl) ⟨Nat.le_of_ble_eq_true rfl, Nat.le_of_ble_eq_true rfl⟩ rfl rfl (jc.deep (c_PacketWall_putNumber_pf hC_M22 (FR.rfl _ M22) k16.2 (by omega) (by omega) (by omega) rfl (fun M26 hC_M26 hf_M26 w26_0 => ?_)) (by decide))
                  have ht_M26 : FR W_c_Flows_rewrite_x T M26 := FR.t ht_M22 hf_M26 (kw_sub rfl)
                  refine jr.aload_n rfl rfl ?_
                  refine jr.aload_n rfl rfl ?_
                  have e27 : M22 15 4 = v12 := (hf_M22.g (show kd 15 = 9 from rfl) rfl).trans e12
                  have e28 : M26 15 4 = v12 := (hf_M26.g (show kd 15 = 9 from rfl) rfl).trans e27
                  refine jr.getf (i := 4) (x := v12) (v := .int (Int32.ofInt (v12))) rfl rfl (by decide) rfl (by decide) rfl rfl e28 rfl ?_
                  have e30 : M22 3 3 = C := (hf_M22.g (show kd 3 = 18 from rfl) rfl).trans e18
                  have e31 : M26 3 3 = C := (hf_M26.g (show kd 3 = 18 from rfl) rfl).trans e30
                  have e32 : M22 3 7 = S := (hf_M22.g (show kd 3 = 18 from rfl) rfl).trans e14
                  have e33 : M26 3 7 = S := (hf_M26.g (show kd 3 = 18 from rfl) rfl).trans e32
                  have k29_S : kd (S).toNat = 33 := (congrArg (fun z : Int => kd z.toNat) e33).symm.trans (CI.x hC_M26 (show kd 3 = 18 from rfl) 7 rfl (by decide))
                  refine jr_v rfl rfl (Or.inl rfl) rfl rfl (by decide) rfl ⟨rfl, Nat.le_of_ble_eq_true rfl, Nat.le_of_ble_eq_true rfl⟩ rfl (jc.deep (c_Headers_mend_x hC_M26 (FR.rfl _ M26) (show kd 3 = 18 from rfl) (by omega) e31 e33 rfl (HS2.p (HS2.p (HS.two (HS.fr p1 (show kd 3 = 18 from rfl) hC_M hf_M1 rfl)) (show kd 3 = 18 from rfl) e14 k_S w22_0) (show kd 3 = 18 from rfl) e32 k_S w26_0) (fun r29 M29 hC_M29 hf_M29 z29 w29_0 => ?_)) (by decide))
                  have ht_M29 : FR W_c_Flows_rewrite_x T M29 := FR.t ht_M26 hf_M29 (kw_sub rfl)
                  refine jr.pop rfl rfl ?_
                  refine jr.aload_n rfl rfl ?_
                  refine jr.aload_n rfl rfl ?_
                  have e34 : M22 15 3 = v13 := (hf_M22.g (show kd 15 = 9 from rfl) rfl).trans e13
                  have e35 : M26 15 3 = v13 := (hf_M26.g (show kd 15 = 9 from rfl) rfl).trans e34
                  have e36 : M29 15 3 = v13 := (hf_M29.g (show kd 15 = 9 from rfl) rfl).trans e35
                  refine jr.getf (i := 3) (x := v13) (v := .int (Int32.ofInt (v13))) rfl rfl (by decide) rfl (by decide) rfl rfl e36 rfl ?_
                  have e38 : M29 3 3 = C := (hf_M29.g (show kd 3 = 18 from rfl) rfl).trans e31
                  have e39 : M29 3 7 = S := (hf_M29.g (show kd 3 = 18 from rfl) rfl).trans e33
                  have k37_S : kd (S).toNat = 33 := (congrArg (fun z : Int => kd z.toNat) e39).symm.trans (CI.x hC_M29 (show kd 3 = 18 from rfl) 7 rfl (by decide))
                  refine jr_v rfl rfl (Or.inl rfl) rfl rfl (by decide) rfl ⟨rfl, Nat.le_of_ble_eq_true rfl, Nat.le_of_ble_eq_true rfl⟩ rfl (jc.deep (c_Headers_mend_x hC_M29 (FR.rfl _ M29) (show kd 3 = 18 from rfl) (by omega) e38 e39 rfl (HS2.m (HS2.p (HS2.p (HS.two (HS.fr p1 (show kd 3 = 18 from rfl) hC_M hf_M1 rfl)) (show kd 3 = 18 from rfl) e14 k_S w22_0) (show kd 3 = 18 from rfl) e32 k_S w26_0) (show kd 3 = 18 from rfl) e33 k_S w29_0) (fun r37 M37 hC_M37 hf_M37 z37 w37_0 => ?_)) (by decide))
                  have ht_M37 : FR W_c_Flows_rewrite_x T M37 := FR.t ht_M29 hf_M37 (kw_sub rfl)
                  refine jr.pop rfl rfl ?_
                  refine jr.iload rfl rfl ?_
                  exact jr.ireturn rfl rfl rfl (q _ _ hC_M37 ht_M37 (by omega) (by rw [p0]; exact Or.inr ⟨M1, (show FND M M1 f N C F 1 from by have h9 := w1_0; rw [show r1 = 1 from by omega] at h9; exact h9), Or.inr (Or.inr ⟨by rw [e2]; omega, ⟨by rw [← w3_0]; omega, by rw [← w3_0, e8]; omega⟩, by rw [← w3_0, ← w11_0], (by rw [← w3_0, e13, e12]; simp only [if_neg (show r11 ≠ 0 by omega)]; rw [e21, e24]; have h9 := w37_0.2.1; unfold tuF; rw [show hY f N v13 = r17 from by rw [w17_0]; unfold pA; rw [if_pos (by omega)], show hY f N v12 = r19 from by rw [w19_0]; unfold pA; rw [if_pos (by omega)]]; simp only [if_neg (show r11 ≠ 0 by omega)]; exact h9), fun b k hb => (w37_0.2.2 b k hb).trans ((w29_0.2.2 b k hb).trans ((w26_0.2 b k hb).trans (w22_0.2 b k hb)))⟩)⟩))
                · exact absurd (by omega) h147
              · exact absurd (by omega) h121
            · exact absurd (by omega) h103
          · refine jr.bipush rfl (by decide) ?_
            refine jr.goto rfl rfl ?_
            refine jr.iadd rfl ?_
            refine jr.istore rfl (by decide) rfl ?_
            refine jr.aload_n rfl rfl ?_
            refine jr.aload_n rfl rfl ?_
            refine jr.getf (i := 4) (x := v12) (v := .int (Int32.ofInt (v12))) rfl rfl (by decide) rfl (by decide) rfl rfl e12 rfl ?_
            refine jr_v rfl rfl (Or.inl rfl) rfl rfl (by decide) rfl ⟨rfl, Nat.le_of_ble_eq_true rfl, Nat.le_of_ble_eq_true rfl⟩ rfl (jc.deep (c_Headers_placeAt_x hC_M1 (show kd 3 = 18 from rfl) (by omega) e18 (HS.fr p1 (show kd 3 = 18 from rfl) hC_M hf_M1 rfl) (fun r40 z40 w40_0 => ?_)) (by decide))
            refine jr.iload rfl rfl ?_
            refine jr.if_ne rfl rfl (by omega) (fun h103 => ?_) (fun h103 => ?_)
            · exact absurd h103 (by omega)
            · refine jr.iconst rfl ?_
              refine jr.goto rfl rfl ?_
              refine jr.iadd rfl ?_
              refine jr.istore rfl (by decide) rfl ?_
              refine jr.aload rfl rfl ?_
              refine jr.iload rfl rfl ?_
              refine jr.iconst rfl ?_
              refine jr.iload rfl rfl ?_
              refine jr.if_ne rfl rfl (by omega) (fun h121 => ?_) (fun h121 => ?_)
              · exact absurd h121 (by omega)
              · refine jr.aload_n rfl rfl ?_
                obtain ⟨v41, e41⟩ : ∃ z_, M ((xe ((V.toNat)) r3)) 14 = z_ := ⟨_, rfl⟩
                have b41 : (-9223372036854775808) ≤ v41 ∧ v41 ≤ 9223372036854775807 := by rw [← e41]; exact (CI.r hC_M k10.2 (by decide) 14)
                have e42 : M1 ((xe ((V.toNat)) r3)) 14 = v41 := (hf_M1.g k10.2 rfl).trans e41
                refine jr.getf (i := 14) (x := v41) (v := .long (Int64.ofInt (v41))) rfl rfl (Nat.lt_trans (kx_1 k10.2).1 (by decide)) (kx_1 k10.2).2 (by decide) rfl rfl e42 rfl ?_
                refine jr.goto rfl rfl ?_
                refine jr_s rfl rfl (Or.inr rfl) ⟨Nat.le_of_ble_eq_true rfl, Nat.le_of_ble_eq_true rfl⟩ rfl rfl (jc.deep (c_PacketWall_putNumber_pf hC_M1 (FR.rfl _ M1) k16.2 (by omega) (by omega) (by omega) rfl (fun M43 hC_M43 hf_M43 w43_0 => ?_)) (by decide))
                have ht_M43 : FR W_c_Flows_rewrite_x T M43 := FR.t ht_M1 hf_M43 (kw_sub rfl)
                refine jr.aload rfl rfl ?_
                refine jr.iload rfl rfl ?_
                refine jr.iconst rfl ?_
                refine jr.iload rfl rfl ?_
                refine jr.if_ne rfl rfl (by omega) (fun h147 => ?_) (fun h147 => ?_)
                · exact absurd h147 (by omega)
                · refine jr.aload_n rfl rfl ?_
                  obtain ⟨v44, e44⟩ : ∃ z_, M ((xe ((V.toNat)) r3)) 15 = z_ := ⟨_, rfl⟩
                  have b44 : (-2147483648) ≤ v44 ∧ v44 ≤ 2147483647 := by rw [← e44]; exact (CI.r hC_M k10.2 (by decide) 15)
                  have e45 : M1 ((xe ((V.toNat)) r3)) 15 = v44 := (hf_M1.g k10.2 rfl).trans e44
                  have e46 : M43 ((xe ((V.toNat)) r3)) 15 = v44 := (hf_M43.g k10.2 rfl).trans e45
                  refine jr.getf (i := 15) (x := v44) (v := .int (Int32.ofInt (v44))) rfl rfl (Nat.lt_trans (kx_1 k10.2).1 (by decide)) (kx_1 k10.2).2 (by decide) rfl rfl e46 rfl ?_
                  refine jr.i2l rfl (by omega) ?_
                  refine jr.goto rfl rfl ?_
                  refine jr_s rfl rfl (Or.inr rfl) ⟨Nat.le_of_ble_eq_true rfl, Nat.le_of_ble_eq_true rfl⟩ rfl rfl (jc.deep (c_PacketWall_putNumber_pf hC_M43 (FR.rfl _ M43) k16.2 (by omega) (by omega) (by omega) rfl (fun M47 hC_M47 hf_M47 w47_0 => ?_)) (by decide))
                  have ht_M47 : FR W_c_Flows_rewrite_x T M47 := FR.t ht_M43 hf_M47 (kw_sub rfl)
                  refine jr.aload_n rfl rfl ?_
                  refine jr.aload_n rfl rfl ?_
                  have e48 : M43 15 4 = v12 := (hf_M43.g (show kd 15 = 9 from rfl) rfl).trans e12
                  have e49 : M47 15 4 = v12 := (hf_M47.g (show kd 15 = 9 from rfl) rfl).trans e48
                  refine jr.getf (i := 4) (x := v12) (v := .int (Int32.ofInt (v12))) rfl rfl (by decide) rfl (by decide) rfl rfl e49 rfl ?_
                  have e51 : M43 3 3 = C := (hf_M43.g (show kd 3 = 18 from rfl) rfl).trans e18
                  have e52 : M47 3 3 = C := (hf_M47.g (show kd 3 = 18 from rfl) rfl).trans e51
                  have e53 : M43 3 7 = S := (hf_M43.g (show kd 3 = 18 from rfl) rfl).trans e14
                  have e54 : M47 3 7 = S := (hf_M47.g (show kd 3 = 18 from rfl) rfl).trans e53
                  have k50_S : kd (S).toNat = 33 := (congrArg (fun z : Int => kd z.toNat) e54).symm.trans (CI.x hC_M47 (show kd 3 = 18 from rfl) 7 rfl (by decide))
                  refine jr_v rfl rfl (Or.inl rfl) rfl rfl (by decide) rfl ⟨rfl, Nat.le_of_ble_eq_true rfl, Nat.le_of_ble_eq_true rfl⟩ rfl (jc.deep (c_Headers_mend_x hC_M47 (FR.rfl _ M47) (show kd 3 = 18 from rfl) (by omega) e52 e54 rfl (HS2.p (HS2.p (HS.two (HS.fr p1 (show kd 3 = 18 from rfl) hC_M hf_M1 rfl)) (show kd 3 = 18 from rfl) e14 k_S w43_0) (show kd 3 = 18 from rfl) e53 k_S w47_0) (fun r50 M50 hC_M50 hf_M50 z50 w50_0 => ?_)) (by decide))
                  have ht_M50 : FR W_c_Flows_rewrite_x T M50 := FR.t ht_M47 hf_M50 (kw_sub rfl)
                  refine jr.pop rfl rfl ?_
                  refine jr.aload_n rfl rfl ?_
                  refine jr.aload_n rfl rfl ?_
                  have e55 : M43 15 3 = v13 := (hf_M43.g (show kd 15 = 9 from rfl) rfl).trans e13
                  have e56 : M47 15 3 = v13 := (hf_M47.g (show kd 15 = 9 from rfl) rfl).trans e55
                  have e57 : M50 15 3 = v13 := (hf_M50.g (show kd 15 = 9 from rfl) rfl).trans e56
                  refine jr.getf (i := 3) (x := v13) (v := .int (Int32.ofInt (v13))) rfl rfl (by decide) rfl (by decide) rfl rfl e57 rfl ?_
                  have e59 : M50 3 3 = C := (hf_M50.g (show kd 3 = 18 from rfl) rfl).trans e52
                  have e60 : M50 3 7 = S := (hf_M50.g (show kd 3 = 18 from rfl) rfl).trans e54
                  have k58_S : kd (S).toNat = 33 := (congrArg (fun z : Int => kd z.toNat) e60).symm.trans (CI.x hC_M50 (show kd 3 = 18 from rfl) 7 rfl (by decide))
                  refine jr_v rfl rfl (Or.inl rfl) rfl rfl (by decide) rfl ⟨rfl, Nat.le_of_ble_eq_true rfl, Nat.le_of_ble_eq_true rfl⟩ rfl (jc.deep (c_Headers_mend_x hC_M50 (FR.rfl _ M50) (show kd 3 = 18 from rfl) (by omega) e59 e60 rfl (HS2.m (HS2.p (HS2.p (HS.two (HS.fr p1 (show kd 3 = 18 from rfl) hC_M hf_M1 rfl)) (show kd 3 = 18 from rfl) e14 k_S w43_0) (show kd 3 = 18 from rfl) e53 k_S w47_0) (show kd 3 = 18 from rfl) e54 k_S w50_0) (fun r58 M58 hC_M58 hf_M58 z58 w58_0 => ?_)) (by decide))
                  have ht_M58 : FR W_c_Flows_rewrite_x T M58 := FR.t ht_M50 hf_M58 (kw_sub rfl)
                  refine jr.pop rfl rfl ?_
                  refine jr.iload rfl rfl ?_
                  exact jr.ireturn rfl rfl rfl (q _ _ hC_M58 ht_M58 (by omega) (by rw [p0]; exact Or.inr ⟨M1, (show FND M M1 f N C F 1 from by have h9 := w1_0; rw [show r1 = 1 from by omega] at h9; exact h9), Or.inr (Or.inr ⟨by rw [e2]; omega, ⟨by rw [← w3_0]; omega, by rw [← w3_0, e8]; omega⟩, by rw [← w3_0, ← w11_0], (by rw [← w3_0, e13, e12]; simp only [if_pos (show r11 = 0 by omega)]; rw [e42, e45]; have h9 := w58_0.2.1; unfold tuF; rw [show hY f N v13 = r17 from by rw [w17_0]; unfold pA; rw [if_pos (by omega)], show hY f N v12 = r40 from by rw [w40_0]; unfold pA; rw [if_pos (by omega)]]; simp only [if_pos (show r11 = 0 by omega)]; exact h9), fun b k hb => (w58_0.2.2 b k hb).trans ((w50_0.2.2 b k hb).trans ((w47_0.2 b k hb).trans (w43_0.2 b k hb)))⟩)⟩))
        · refine jr.bipush rfl (by decide) ?_
          exact jr.ireturn rfl rfl rfl (q _ _ hC_M1 ht_M1 (by omega) (by rw [p0]; exact Or.inr ⟨M1, (show FND M M1 f N C F 1 from by have h9 := w1_0; rw [show r1 = 1 from by omega] at h9; exact h9), Or.inr (Or.inl ⟨by rw [e2]; omega, by rw [← w3_0]; exact Or.inr (by rw [e8]; omega), rfl, rfl⟩)⟩))
    · have sx12 : (1 : Int) ≤ v2 := by omega
      refine jr.bipush rfl (by decide) ?_
      exact jr.ireturn rfl rfl rfl (q _ _ hC_M1 ht_M1 (by omega) (by rw [p0]; exact Or.inr ⟨M1, (show FND M M1 f N C F 1 from by have h9 := w1_0; rw [show r1 = 1 from by omega] at h9; exact h9), Or.inl ⟨by rw [e2]; omega, rfl, rfl⟩⟩))
noncomputable def W_c_PacketWall_turn_x : List (Nat × Nat) := [(1, 1), (1, 2), (2, 1000), (7, 1000), (9, 3), (9, 4), (9, 5), (18, 3), (18, 4), (18, 5), (18, 6), (18, 7), (19, 1000), (20, 1000), (21, 1000), (34, 1000)]
theorem c_PacketWall_turn_x {A : Nat → Option (Nat × (Nat → Int32))} {Q : Option Value → jm → Prop} {F : Int → Int → Int} {T : jm} {M : jm} (hC_M : CI M) (ht_M : FR W_c_PacketWall_turn_x T M) {x : Int} (h_x : (-2147483648) ≤ x ∧ x ≤ 2147483647) {V : Int} (g_V : M 15 0 = V) (p0 : T = M) (p1 : PBS M F) (q : ∀ (r : Int) (M' : jm), CI M' → FR W_c_PacketWall_turn_x T M' → (-4) ≤ r ∧ r ≤ 1 → (((x < 0 ∨ 23 < x ∨ T (xe 2 x) 1 = -1) ∧ r = -2 ∧ M' = T) ∨ (((0 ≤ x ∧ x ≤ 23) ∧ T (xe 2 x) 1 ≠ -1) ∧ ∃ (C : Int) (H : jm), HE (F x) (T (xe 2 x) 1) C ∧ (H 3 4 = 0 ↔ hX (F x) (T (xe 2 x) 1) C = -1) ∧ FR W_c_Headers_readAll_x T H ∧ H 3 7 = ((xe 2 x) : Nat) ∧ RWQ H M' (F x) (T (xe 2 x) 1) C (H 3 4) V.toNat (H 3 7) r)) → Q (some (.int (Int32.ofInt r))) M') : jc A 7 25 [.ref (0), .int (Int32.ofInt (x))] M Q := by
  refine jc_of (m := xm_25) rfl (Nat.le_of_ble_eq_true rfl) rfl ?_
  have b_V : 16 ≤ V ∧ V ≤ 17 := by rw [← g_V]; exact (CI.r hC_M (show kd 15 = 9 from rfl) (by decide) 0)
  refine jr.aload_n rfl rfl ?_
  refine jr.iload_n rfl rfl ?_
  refine jr_v rfl rfl (Or.inl rfl) rfl rfl (by decide) rfl ⟨rfl, Nat.le_of_ble_eq_true rfl, Nat.le_of_ble_eq_true rfl⟩ rfl (jc.deep (c_PacketWall_isPacket_x hC_M (by omega) (fun r1 z1 w1_0 w1_1 => ?_)) (by decide))
  refine jr.if_ne rfl rfl (by omega) (fun h5 => ?_) (fun h5 => ?_)
  · have sx5 : (1 : Int) ≤ r1 := by omega
    refine jr.aload_n rfl rfl ?_
    refine jr.getf (i := 3) (v := .ref 3) rfl rfl (by decide) rfl (by decide) rfl rfl rfl rfl ?_
    refine jr.aload_n rfl rfl ?_
    refine jr.getf (i := 2) (v := .ref 2) rfl rfl (by decide) rfl (by decide) rfl rfl rfl rfl ?_
    refine jr.iload_n rfl rfl ?_
    have k2 := kxe_42 (a := 2) rfl (i := x) (by omega) (by omega)
    refine jr.aald (c := (xe 2 x)) rfl (by decide) rfl (by decide) (by decide) rfl (by decide) (by omega) (by omega) k2.1 ?_
    obtain ⟨v4, e4⟩ : ∃ z_, M ((xe 2 x)) 1 = z_ := ⟨_, rfl⟩
    have b4 : (-1) ≤ v4 ∧ v4 ≤ 400 := by rw [← e4]; exact (CI.r hC_M k2.2 (by decide) 1)
    refine jr_v rfl rfl (Or.inl rfl) rfl rfl (by decide) rfl ⟨rfl, Nat.le_of_ble_eq_true rfl, Nat.le_of_ble_eq_true rfl⟩ rfl (jc.deep (c_Headers_readAll_x hC_M (FR.rfl _ M) (show kd 3 = 18 from rfl) k2.2 e4 (p1 x (by omega) (by omega)) (fun M3 hC_M3 hf_M3 w3_0 w3_1 w3_2 => ?_)) (by decide))
    have ht_M3 : FR W_c_PacketWall_turn_x T M3 := FR.t ht_M hf_M3 (kw_sub rfl)
    refine jr.aload_n rfl rfl ?_
    refine jr.getf (i := 9) (v := .ref 15) rfl rfl (by decide) rfl (by decide) rfl rfl rfl rfl ?_
    refine jr.aload_n rfl rfl ?_
    refine jr.getf (i := 3) (v := .ref 3) rfl rfl (by decide) rfl (by decide) rfl rfl rfl rfl ?_
    obtain ⟨v6, e6⟩ : ∃ z_, M3 3 3 = z_ := ⟨_, rfl⟩
    have b6 : 0 ≤ v6 ∧ v6 ≤ 12 := by rw [← e6]; exact (CI.r hC_M3 (show kd 3 = 18 from rfl) (by decide) 3)
    obtain ⟨v7, e7⟩ : ∃ z_, M3 3 4 = z_ := ⟨_, rfl⟩
    have b7 : (-2147483648) ≤ v7 ∧ v7 ≤ 2147483647 := by rw [← e7]; exact (CI.r hC_M3 (show kd 3 = 18 from rfl) (by decide) 4)
    obtain ⟨v8, e8⟩ : ∃ z_, M3 3 7 = z_ := ⟨_, rfl⟩
    have b8 : 0 ≤ v8 ∧ v8 ≤ 597 := by rw [← e8]; exact (CI.r hC_M3 (show kd 3 = 18 from rfl) (by decide) 7)
    have k5_S : kd (v8).toNat = 33 := (congrArg (fun z : Int => kd z.toNat) e8).symm.trans (CI.x hC_M3 (show kd 3 = 18 from rfl) 7 rfl (by decide))
    have e9 : M3 15 0 = V := (hf_M3.g (show kd 15 = 9 from rfl) rfl).trans g_V
    refine jr_v rfl rfl (Or.inl rfl) rfl rfl (by decide) rfl ⟨rfl, Nat.le_of_ble_eq_true rfl, Nat.le_of_ble_eq_true rfl⟩ rfl (jc.deep (c_Flows_rewrite_x hC_M3 (FR.rfl _ M3)  e6 e7 e8 e9 rfl ((w3_1.resolve_left (fun h => by omega)).2) (fun r5 M5 hC_M5 hf_M5 z5 w5_0 => ?_)) (by decide))
    have ht_M5 : FR W_c_PacketWall_turn_x T M5 := FR.t ht_M3 hf_M5 (kw_sub rfl)
    exact jr.ireturn rfl rfl rfl (q _ _ hC_M5 ht_M5 (by omega) (Or.inr ⟨by rw [p0]; omega, by rw [p0, e4]; exact ⟨v6, M3, (by have hq := HQ.e ((w3_1.resolve_left (fun h => by omega)).2).2.2.2; rw [e6] at hq; exact hq), ⟨fun h => hxc_z ((w3_1.resolve_left (fun h => by omega)).2) e6 h, fun h => Decidable.byContradiction (fun u => hxc_n ((w3_1.resolve_left (fun h => by omega)).2) e6 u h)⟩, hf_M3, w3_2, by rw [e7, e8]; exact w5_0⟩⟩))
  · refine jr.bipush rfl (by decide) ?_
    exact jr.ireturn rfl rfl rfl (q _ _ hC_M ht_M (by omega) (Or.inl ⟨by rw [p0]; omega, by omega, p0.symm⟩))
end
section
/-! ===== the table: rows as functions ===== -/
/-- the bytes of a row but its sum -/
noncomputable def xrB (n s p0 p1 w0 w1 a0 a1 l0 l1 u pk by_ : Int) (k : Int) : Int := if k = 0 then n % 256 else if k = 1 then s % 256 else if k < 4 then bt p0 (3 - k) else if k < 6 then bt p1 (5 - k) else if k < 8 then bt w0 (7 - k) else if k < 10 then bt w1 (9 - k) else if k < 18 then bt a0 (17 - k) else if k < 26 then bt a1 (25 - k) else if k < 30 then bt l0 (29 - k) else if k < 34 then bt l1 (33 - k) else if k < 38 then bt u (37 - k) else if k < 42 then bt pk (41 - k) else bt by_ (45 - k)
noncomputable def xrF (f : Int → Int) (y : Int) (B : Int → Int) : Int → Int := fun k => if y ≤ k ∧ k < y + 46 then B (k - y) else f k
/-- a row laid at y -/
noncomputable def rwl (f : Int → Int) (y : Int) (B : Int → Int) : Int → Int := ptn (xrF f y B) (y + 46) 2 (tn (sb (xrF f y B) y 46))
/-- rows of those that u names, one behind another -/
noncomputable def exL (u : Int → Int) (B : Int → Int → Int) (f : Int → Int) : Nat → (Int → Int) × Int
  | 0 => (f, 0)
  | n + 1 => if u n = 0 then exL u B f n else (rwl (exL u B f n).1 (exL u B f n).2 (B n), (exL u B f n).2 + 48)
theorem exL_s {u : Int → Int} {B : Int → Int → Int} {f : Int → Int} {i : Int} (h : 0 ≤ i) : exL u B f (i + 1).toNat = if u i = 0 then exL u B f i.toNat else (rwl (exL u B f i.toNat).1 (exL u B f i.toNat).2 (B i), (exL u B f i.toNat).2 + 48) := by
  obtain ⟨n, rfl⟩ := Int.eq_ofNat_of_zero_le h
  rw [show ((n : Int) + 1).toNat = n + 1 by omega, show ((n : Int)).toNat = n by omega]
  rfl
theorem exL_r (u : Int → Int) (B : Int → Int → Int) (f : Int → Int) : ∀ n : Nat, 0 ≤ (exL u B f n).2 ∧ (exL u B f n).2 ≤ 48 * n := by
  intro n
  induction n with
  | zero => exact ⟨Int.le_refl _, Int.le_refl _⟩
  | succ n ih =>
    unfold exL
    split
    · omega
    · show 0 ≤ (exL u B f n).2 + 48 ∧ (exL u B f n).2 + 48 ≤ _
      omega
theorem exL_e {u u2 : Int → Int} {B B2 : Int → Int → Int} {f : Int → Int} (n : Nat) (h : ∀ i : Int, 0 ≤ i → i < n → u i = u2 i ∧ (u i ≠ 0 → B i = B2 i)) : exL u B f n = exL u2 B2 f n := by
  induction n with
  | zero => rfl
  | succ n ih =>
    have q := h n (by omega) (by omega)
    have e := ih (fun i h0 h1 => h i h0 (by omega))
    unfold exL
    by_cases z : u n = 0
    · rw [if_pos z, if_pos (by rw [← q.1]; exact z), e]
    · rw [if_neg z, if_neg (by rw [← q.1]; exact z), e, q.2 z]
noncomputable def ly0 (f : Int → Int) (y n s : Int) : Int → Int := ptn (ptn f y 1 n) (y + 1) 1 s
noncomputable def lyS (f : Int → Int) (y p w a l i : Int) : Int → Int := ptn (ptn (ptn (ptn f (y + 2 + 2 * i) 2 p) (y + 6 + 2 * i) 2 w) (y + 10 + 8 * i) 8 a) (y + 26 + 4 * i) 4 l
noncomputable def lyI (f : Int → Int) (y : Int) (p w a l : Int → Int) : Nat → Int → Int
  | 0 => f
  | n + 1 => lyS (lyI f y p w a l n) y (p n) (w n) (a n) (l n) n
theorem lyI_s {f : Int → Int} {y : Int} {p w a l : Int → Int} {i : Int} (h : 0 ≤ i) : lyI f y p w a l (i + 1).toNat = lyS (lyI f y p w a l i.toNat) y (p i) (w i) (a i) (l i) i := by
  obtain ⟨n, rfl⟩ := Int.eq_ofNat_of_zero_le h
  rw [show ((n : Int) + 1).toNat = n + 1 by omega, show ((n : Int)).toNat = n by omega]
  rfl
noncomputable def lyE (f : Int → Int) (y u pk by_ : Int) : Int → Int := ptn (ptn (ptn f (y + 34) 4 u) (y + 38) 4 pk) (y + 42) 4 by_
noncomputable def ry1 (f : Int → Int) (t p0 p1 w0 w1 a0 a1 : Int) : Int → Int := ptn (ptn (ptn (ptn (ptn (ptn (ptn (ptn f (t + 2) 2 p0) (t + 4) 2 p1) (t + 6) 2 w0) (t + 8) 2 w1) (t + 10) 4 (a0 / 4294967296)) (t + 14) 4 a0) (t + 18) 4 (a1 / 4294967296)) (t + 22) 4 a1
theorem ptn_in {f : Int → Int} {y n v k : Int} (h : y ≤ k ∧ k < y + n) : ptn f y n v k = bt v (y + n - 1 - k) := if_pos h
theorem ptn_out {f : Int → Int} {y n v k : Int} (h : k < y ∨ y + n ≤ k) : ptn f y n v k = f k := if_neg (by omega)
theorem bt_hi {a j : Int} (h : 0 ≤ j ∧ j < 4) : bt (a / 4294967296) j = bt a (j + 4) := by
  rcases (show j = 0 ∨ j = 1 ∨ j = 2 ∨ j = 3 by omega) with rfl | rfl | rfl | rfl
  · show a / 4294967296 % 256 = a / 4294967296 % 256
    rfl
  · show a / 4294967296 / 256 % 256 = a / 1099511627776 % 256
    omega
  · show a / 4294967296 / 65536 % 256 = a / 281474976710656 % 256
    omega
  · show a / 4294967296 / 16777216 % 256 = a / 72057594037927936 % 256
    omega
theorem jp1 {M : jm} {c : Nat} {t v : Int} (h : 0 ≤ v ∧ v ≤ 255) : ju M c t v c = ptn (M c) t 1 v := by
  funext k
  by_cases q : k = t
  · subst q
    rw [ju_same, ptn_in (by omega), show k + 1 - 1 - k = 0 by omega]
    show v = v % 256
    omega
  · rw [ju_i _ _ q, ptn_out (by omega)]
theorem lyx0 {f : Int → Int} {y n s p0 p1 w0 w1 a0 a1 l0 l1 u pk by_ : Int} : (ptn (ptn (ptn (ptn (ptn (ptn (ptn (ptn (ptn (ptn (ptn (ptn (ptn f y 1 n) (y + 1) 1 s) (y + 2) 2 p0) (y + 6) 2 w0) (y + 10) 8 a0) (y + 26) 4 l0) (y + 4) 2 p1) (y + 8) 2 w1) (y + 18) 8 a1) (y + 30) 4 l1) (y + 34) 4 u) (y + 38) 4 pk) (y + 42) 4 by_) = xrF f y (xrB n s p0 p1 w0 w1 a0 a1 l0 l1 u pk by_) := by
  funext z
  by_cases q : y ≤ z ∧ z < y + 46
  · have hR : xrF f y (xrB n s p0 p1 w0 w1 a0 a1 l0 l1 u pk by_) z = xrB n s p0 p1 w0 w1 a0 a1 l0 l1 u pk by_ (z - y) := if_pos q
    rw [hR]
    unfold xrB
    rcases (show (y + 0 ≤ z ∧ z < y + 1) ∨ (y + 1 ≤ z ∧ z < y + 2) ∨ (y + 2 ≤ z ∧ z < y + 4) ∨ (y + 4 ≤ z ∧ z < y + 6) ∨ (y + 6 ≤ z ∧ z < y + 8) ∨ (y + 8 ≤ z ∧ z < y + 10) ∨ (y + 10 ≤ z ∧ z < y + 18) ∨ (y + 18 ≤ z ∧ z < y + 26) ∨ (y + 26 ≤ z ∧ z < y + 30) ∨ (y + 30 ≤ z ∧ z < y + 34) ∨ (y + 34 ≤ z ∧ z < y + 38) ∨ (y + 38 ≤ z ∧ z < y + 42) ∨ (y + 42 ≤ z ∧ z < y + 46) by omega) with c | c | c | c | c | c | c | c | c | c | c | c | c
    · rw [if_pos (show z - y = 0 by omega)]
      rw [ptn_out (by omega), ptn_out (by omega), ptn_out (by omega), ptn_out (by omega), ptn_out (by omega), ptn_out (by omega), ptn_out (by omega), ptn_out (by omega), ptn_out (by omega), ptn_out (by omega), ptn_out (by omega), ptn_out (by omega), ptn_in (by omega)]
      rw [show y + 1 - 1 - z = 0 by omega]
      rfl
    · rw [if_neg (show ¬ z - y = 0 by omega), if_pos (show z - y = 1 by omega)]
      rw [ptn_out (by omega), ptn_out (by omega), ptn_out (by omega), ptn_out (by omega), ptn_out (by omega), ptn_out (by omega), ptn_out (by omega), ptn_out (by omega), ptn_out (by omega), ptn_out (by omega), ptn_out (by omega), ptn_in (by omega)]
      rw [show y + 1 + 1 - 1 - z = 0 by omega]
      rfl
    · rw [if_neg (show ¬ z - y = 0 by omega), if_neg (show ¬ z - y = 1 by omega), if_pos (show z - y < 4 by omega)]
      rw [ptn_out (by omega), ptn_out (by omega), ptn_out (by omega), ptn_out (by omega), ptn_out (by omega), ptn_out (by omega), ptn_out (by omega), ptn_out (by omega), ptn_out (by omega), ptn_out (by omega), ptn_in (by omega)]
      congr 1
      omega
    · rw [if_neg (show ¬ z - y = 0 by omega), if_neg (show ¬ z - y = 1 by omega), if_neg (show ¬ z - y < 4 by omega), if_pos (show z - y < 6 by omega)]
      rw [ptn_out (by omega), ptn_out (by omega), ptn_out (by omega), ptn_out (by omega), ptn_out (by omega), ptn_out (by omega), ptn_in (by omega)]
      congr 1
      omega
    · rw [if_neg (show ¬ z - y = 0 by omega), if_neg (show ¬ z - y = 1 by omega), if_neg (show ¬ z - y < 4 by omega), if_neg (show ¬ z - y < 6 by omega), if_pos (show z - y < 8 by omega)]
      rw [ptn_out (by omega), ptn_out (by omega), ptn_out (by omega), ptn_out (by omega), ptn_out (by omega), ptn_out (by omega), ptn_out (by omega), ptn_out (by omega), ptn_out (by omega), ptn_in (by omega)]
      congr 1
      omega
    · rw [if_neg (show ¬ z - y = 0 by omega), if_neg (show ¬ z - y = 1 by omega), if_neg (show ¬ z - y < 4 by omega), if_neg (show ¬ z - y < 6 by omega), if_neg (show ¬ z - y < 8 by omega), if_pos (show z - y < 10 by omega)]
      rw [ptn_out (by omega), ptn_out (by omega), ptn_out (by omega), ptn_out (by omega), ptn_out (by omega), ptn_in (by omega)]
      congr 1
      omega
    · rw [if_neg (show ¬ z - y = 0 by omega), if_neg (show ¬ z - y = 1 by omega), if_neg (show ¬ z - y < 4 by omega), if_neg (show ¬ z - y < 6 by omega), if_neg (show ¬ z - y < 8 by omega), if_neg (show ¬ z - y < 10 by omega), if_pos (show z - y < 18 by omega)]
      rw [ptn_out (by omega), ptn_out (by omega), ptn_out (by omega), ptn_out (by omega), ptn_out (by omega), ptn_out (by omega), ptn_out (by omega), ptn_out (by omega), ptn_in (by omega)]
      congr 1
      omega
    · rw [if_neg (show ¬ z - y = 0 by omega), if_neg (show ¬ z - y = 1 by omega), if_neg (show ¬ z - y < 4 by omega), if_neg (show ¬ z - y < 6 by omega), if_neg (show ¬ z - y < 8 by omega), if_neg (show ¬ z - y < 10 by omega), if_neg (show ¬ z - y < 18 by omega), if_pos (show z - y < 26 by omega)]
      rw [ptn_out (by omega), ptn_out (by omega), ptn_out (by omega), ptn_out (by omega), ptn_in (by omega)]
      congr 1
      omega
    · rw [if_neg (show ¬ z - y = 0 by omega), if_neg (show ¬ z - y = 1 by omega), if_neg (show ¬ z - y < 4 by omega), if_neg (show ¬ z - y < 6 by omega), if_neg (show ¬ z - y < 8 by omega), if_neg (show ¬ z - y < 10 by omega), if_neg (show ¬ z - y < 18 by omega), if_neg (show ¬ z - y < 26 by omega), if_pos (show z - y < 30 by omega)]
      rw [ptn_out (by omega), ptn_out (by omega), ptn_out (by omega), ptn_out (by omega), ptn_out (by omega), ptn_out (by omega), ptn_out (by omega), ptn_in (by omega)]
      congr 1
      omega
    · rw [if_neg (show ¬ z - y = 0 by omega), if_neg (show ¬ z - y = 1 by omega), if_neg (show ¬ z - y < 4 by omega), if_neg (show ¬ z - y < 6 by omega), if_neg (show ¬ z - y < 8 by omega), if_neg (show ¬ z - y < 10 by omega), if_neg (show ¬ z - y < 18 by omega), if_neg (show ¬ z - y < 26 by omega), if_neg (show ¬ z - y < 30 by omega), if_pos (show z - y < 34 by omega)]
      rw [ptn_out (by omega), ptn_out (by omega), ptn_out (by omega), ptn_in (by omega)]
      congr 1
      omega
    · rw [if_neg (show ¬ z - y = 0 by omega), if_neg (show ¬ z - y = 1 by omega), if_neg (show ¬ z - y < 4 by omega), if_neg (show ¬ z - y < 6 by omega), if_neg (show ¬ z - y < 8 by omega), if_neg (show ¬ z - y < 10 by omega), if_neg (show ¬ z - y < 18 by omega), if_neg (show ¬ z - y < 26 by omega), if_neg (show ¬ z - y < 30 by omega), if_neg (show ¬ z - y < 34 by omega), if_pos (show z - y < 38 by omega)]
      rw [ptn_out (by omega), ptn_out (by omega), ptn_in (by omega)]
      congr 1
      omega
    · rw [if_neg (show ¬ z - y = 0 by omega), if_neg (show ¬ z - y = 1 by omega), if_neg (show ¬ z - y < 4 by omega), if_neg (show ¬ z - y < 6 by omega), if_neg (show ¬ z - y < 8 by omega), if_neg (show ¬ z - y < 10 by omega), if_neg (show ¬ z - y < 18 by omega), if_neg (show ¬ z - y < 26 by omega), if_neg (show ¬ z - y < 30 by omega), if_neg (show ¬ z - y < 34 by omega), if_neg (show ¬ z - y < 38 by omega), if_pos (show z - y < 42 by omega)]
      rw [ptn_out (by omega), ptn_in (by omega)]
      congr 1
      omega
    · rw [if_neg (show ¬ z - y = 0 by omega), if_neg (show ¬ z - y = 1 by omega), if_neg (show ¬ z - y < 4 by omega), if_neg (show ¬ z - y < 6 by omega), if_neg (show ¬ z - y < 8 by omega), if_neg (show ¬ z - y < 10 by omega), if_neg (show ¬ z - y < 18 by omega), if_neg (show ¬ z - y < 26 by omega), if_neg (show ¬ z - y < 30 by omega), if_neg (show ¬ z - y < 34 by omega), if_neg (show ¬ z - y < 38 by omega), if_neg (show ¬ z - y < 42 by omega)]
      rw [ptn_in (by omega)]
      congr 1
      omega
  · rw [ptn_out (by omega), ptn_out (by omega), ptn_out (by omega), ptn_out (by omega), ptn_out (by omega), ptn_out (by omega), ptn_out (by omega), ptn_out (by omega), ptn_out (by omega), ptn_out (by omega), ptn_out (by omega), ptn_out (by omega), ptn_out (by omega)]
    exact (if_neg q).symm
theorem ryx0 {f : Int → Int} {y n s p0 p1 w0 w1 a0 a1 l0 l1 u pk by_ : Int} : (ptn (ptn (ptn (ptn (ptn (ptn (ptn (ptn (ptn (ptn (ptn (ptn (ptn (ptn (ptn f y 1 n) (y + 1) 1 s) (y + 2) 2 p0) (y + 4) 2 p1) (y + 6) 2 w0) (y + 8) 2 w1) (y + 10) 4 (a0 / 4294967296)) (y + 14) 4 a0) (y + 18) 4 (a1 / 4294967296)) (y + 22) 4 a1) (y + 26) 4 l0) (y + 30) 4 l1) (y + 34) 4 u) (y + 38) 4 pk) (y + 42) 4 by_) = xrF f y (xrB n s p0 p1 w0 w1 a0 a1 l0 l1 u pk by_) := by
  funext z
  by_cases q : y ≤ z ∧ z < y + 46
  · have hR : xrF f y (xrB n s p0 p1 w0 w1 a0 a1 l0 l1 u pk by_) z = xrB n s p0 p1 w0 w1 a0 a1 l0 l1 u pk by_ (z - y) := if_pos q
    rw [hR]
    unfold xrB
    rcases (show (y + 0 ≤ z ∧ z < y + 1) ∨ (y + 1 ≤ z ∧ z < y + 2) ∨ (y + 2 ≤ z ∧ z < y + 4) ∨ (y + 4 ≤ z ∧ z < y + 6) ∨ (y + 6 ≤ z ∧ z < y + 8) ∨ (y + 8 ≤ z ∧ z < y + 10) ∨ (y + 10 ≤ z ∧ z < y + 18) ∨ (y + 18 ≤ z ∧ z < y + 26) ∨ (y + 26 ≤ z ∧ z < y + 30) ∨ (y + 30 ≤ z ∧ z < y + 34) ∨ (y + 34 ≤ z ∧ z < y + 38) ∨ (y + 38 ≤ z ∧ z < y + 42) ∨ (y + 42 ≤ z ∧ z < y + 46) by omega) with c | c | c | c | c | c | c | c | c | c | c | c | c
    · rw [if_pos (show z - y = 0 by omega)]
      rw [ptn_out (by omega), ptn_out (by omega), ptn_out (by omega), ptn_out (by omega), ptn_out (by omega), ptn_out (by omega), ptn_out (by omega), ptn_out (by omega), ptn_out (by omega), ptn_out (by omega), ptn_out (by omega), ptn_out (by omega), ptn_out (by omega), ptn_out (by omega), ptn_in (by omega)]
      rw [show y + 1 - 1 - z = 0 by omega]
      rfl
    · rw [if_neg (show ¬ z - y = 0 by omega), if_pos (show z - y = 1 by omega)]
      rw [ptn_out (by omega), ptn_out (by omega), ptn_out (by omega), ptn_out (by omega), ptn_out (by omega), ptn_out (by omega), ptn_out (by omega), ptn_out (by omega), ptn_out (by omega), ptn_out (by omega), ptn_out (by omega), ptn_out (by omega), ptn_out (by omega), ptn_in (by omega)]
      rw [show y + 1 + 1 - 1 - z = 0 by omega]
      rfl
    · rw [if_neg (show ¬ z - y = 0 by omega), if_neg (show ¬ z - y = 1 by omega), if_pos (show z - y < 4 by omega)]
      rw [ptn_out (by omega), ptn_out (by omega), ptn_out (by omega), ptn_out (by omega), ptn_out (by omega), ptn_out (by omega), ptn_out (by omega), ptn_out (by omega), ptn_out (by omega), ptn_out (by omega), ptn_out (by omega), ptn_out (by omega), ptn_in (by omega)]
      congr 1
      omega
    · rw [if_neg (show ¬ z - y = 0 by omega), if_neg (show ¬ z - y = 1 by omega), if_neg (show ¬ z - y < 4 by omega), if_pos (show z - y < 6 by omega)]
      rw [ptn_out (by omega), ptn_out (by omega), ptn_out (by omega), ptn_out (by omega), ptn_out (by omega), ptn_out (by omega), ptn_out (by omega), ptn_out (by omega), ptn_out (by omega), ptn_out (by omega), ptn_out (by omega), ptn_in (by omega)]
      congr 1
      omega
    · rw [if_neg (show ¬ z - y = 0 by omega), if_neg (show ¬ z - y = 1 by omega), if_neg (show ¬ z - y < 4 by omega), if_neg (show ¬ z - y < 6 by omega), if_pos (show z - y < 8 by omega)]
      rw [ptn_out (by omega), ptn_out (by omega), ptn_out (by omega), ptn_out (by omega), ptn_out (by omega), ptn_out (by omega), ptn_out (by omega), ptn_out (by omega), ptn_out (by omega), ptn_out (by omega), ptn_in (by omega)]
      congr 1
      omega
    · rw [if_neg (show ¬ z - y = 0 by omega), if_neg (show ¬ z - y = 1 by omega), if_neg (show ¬ z - y < 4 by omega), if_neg (show ¬ z - y < 6 by omega), if_neg (show ¬ z - y < 8 by omega), if_pos (show z - y < 10 by omega)]
      rw [ptn_out (by omega), ptn_out (by omega), ptn_out (by omega), ptn_out (by omega), ptn_out (by omega), ptn_out (by omega), ptn_out (by omega), ptn_out (by omega), ptn_out (by omega), ptn_in (by omega)]
      congr 1
      omega
    · rw [if_neg (show ¬ z - y = 0 by omega), if_neg (show ¬ z - y = 1 by omega), if_neg (show ¬ z - y < 4 by omega), if_neg (show ¬ z - y < 6 by omega), if_neg (show ¬ z - y < 8 by omega), if_neg (show ¬ z - y < 10 by omega), if_pos (show z - y < 18 by omega)]
      by_cases d : z < y + 14
      · rw [ptn_out (by omega), ptn_out (by omega), ptn_out (by omega), ptn_out (by omega), ptn_out (by omega), ptn_out (by omega), ptn_out (by omega), ptn_out (by omega), ptn_in (by omega), bt_hi (by omega)]
        congr 1
        omega
      · rw [ptn_out (by omega), ptn_out (by omega), ptn_out (by omega), ptn_out (by omega), ptn_out (by omega), ptn_out (by omega), ptn_out (by omega), ptn_in (by omega)]
        congr 1
        omega
    · rw [if_neg (show ¬ z - y = 0 by omega), if_neg (show ¬ z - y = 1 by omega), if_neg (show ¬ z - y < 4 by omega), if_neg (show ¬ z - y < 6 by omega), if_neg (show ¬ z - y < 8 by omega), if_neg (show ¬ z - y < 10 by omega), if_neg (show ¬ z - y < 18 by omega), if_pos (show z - y < 26 by omega)]
      by_cases d : z < y + 22
      · rw [ptn_out (by omega), ptn_out (by omega), ptn_out (by omega), ptn_out (by omega), ptn_out (by omega), ptn_out (by omega), ptn_in (by omega), bt_hi (by omega)]
        congr 1
        omega
      · rw [ptn_out (by omega), ptn_out (by omega), ptn_out (by omega), ptn_out (by omega), ptn_out (by omega), ptn_in (by omega)]
        congr 1
        omega
    · rw [if_neg (show ¬ z - y = 0 by omega), if_neg (show ¬ z - y = 1 by omega), if_neg (show ¬ z - y < 4 by omega), if_neg (show ¬ z - y < 6 by omega), if_neg (show ¬ z - y < 8 by omega), if_neg (show ¬ z - y < 10 by omega), if_neg (show ¬ z - y < 18 by omega), if_neg (show ¬ z - y < 26 by omega), if_pos (show z - y < 30 by omega)]
      rw [ptn_out (by omega), ptn_out (by omega), ptn_out (by omega), ptn_out (by omega), ptn_in (by omega)]
      congr 1
      omega
    · rw [if_neg (show ¬ z - y = 0 by omega), if_neg (show ¬ z - y = 1 by omega), if_neg (show ¬ z - y < 4 by omega), if_neg (show ¬ z - y < 6 by omega), if_neg (show ¬ z - y < 8 by omega), if_neg (show ¬ z - y < 10 by omega), if_neg (show ¬ z - y < 18 by omega), if_neg (show ¬ z - y < 26 by omega), if_neg (show ¬ z - y < 30 by omega), if_pos (show z - y < 34 by omega)]
      rw [ptn_out (by omega), ptn_out (by omega), ptn_out (by omega), ptn_in (by omega)]
      congr 1
      omega
    · rw [if_neg (show ¬ z - y = 0 by omega), if_neg (show ¬ z - y = 1 by omega), if_neg (show ¬ z - y < 4 by omega), if_neg (show ¬ z - y < 6 by omega), if_neg (show ¬ z - y < 8 by omega), if_neg (show ¬ z - y < 10 by omega), if_neg (show ¬ z - y < 18 by omega), if_neg (show ¬ z - y < 26 by omega), if_neg (show ¬ z - y < 30 by omega), if_neg (show ¬ z - y < 34 by omega), if_pos (show z - y < 38 by omega)]
      rw [ptn_out (by omega), ptn_out (by omega), ptn_in (by omega)]
      congr 1
      omega
    · rw [if_neg (show ¬ z - y = 0 by omega), if_neg (show ¬ z - y = 1 by omega), if_neg (show ¬ z - y < 4 by omega), if_neg (show ¬ z - y < 6 by omega), if_neg (show ¬ z - y < 8 by omega), if_neg (show ¬ z - y < 10 by omega), if_neg (show ¬ z - y < 18 by omega), if_neg (show ¬ z - y < 26 by omega), if_neg (show ¬ z - y < 30 by omega), if_neg (show ¬ z - y < 34 by omega), if_neg (show ¬ z - y < 38 by omega), if_pos (show z - y < 42 by omega)]
      rw [ptn_out (by omega), ptn_in (by omega)]
      congr 1
      omega
    · rw [if_neg (show ¬ z - y = 0 by omega), if_neg (show ¬ z - y = 1 by omega), if_neg (show ¬ z - y < 4 by omega), if_neg (show ¬ z - y < 6 by omega), if_neg (show ¬ z - y < 8 by omega), if_neg (show ¬ z - y < 10 by omega), if_neg (show ¬ z - y < 18 by omega), if_neg (show ¬ z - y < 26 by omega), if_neg (show ¬ z - y < 30 by omega), if_neg (show ¬ z - y < 34 by omega), if_neg (show ¬ z - y < 38 by omega), if_neg (show ¬ z - y < 42 by omega)]
      rw [ptn_in (by omega)]
      congr 1
      omega
  · rw [ptn_out (by omega), ptn_out (by omega), ptn_out (by omega), ptn_out (by omega), ptn_out (by omega), ptn_out (by omega), ptn_out (by omega), ptn_out (by omega), ptn_out (by omega), ptn_out (by omega), ptn_out (by omega), ptn_out (by omega), ptn_out (by omega), ptn_out (by omega), ptn_out (by omega)]
    exact (if_neg q).symm
theorem ryx {f : Int → Int} {y n s p0 p1 w0 w1 a0 a1 l0 l1 u pk by_ : Int} : lyE (ptn (ptn (ry1 (ly0 f y n s) y p0 p1 w0 w1 a0 a1) (y + 26) 4 l0) (y + 30) 4 l1) y u pk by_ = xrF f y (xrB n s p0 p1 w0 w1 a0 a1 l0 l1 u pk by_) := ryx0
theorem lyx {f : Int → Int} {y n s u pk by_ : Int} {p w a l : Int → Int} : lyE (lyI (ly0 f y n s) y p w a l 2) y u pk by_ = xrF f y (xrB n s (p 0) (p 1) (w 0) (w 1) (a 0) (a 1) (l 0) (l 1) u pk by_) := by
  rw [← lyx0]
  show lyE (lyS (lyS (ly0 f y n s) y (p (0 : Nat)) (w (0 : Nat)) (a (0 : Nat)) (l (0 : Nat)) (0 : Nat)) y (p (1 : Nat)) (w (1 : Nat)) (a (1 : Nat)) (l (1 : Nat)) (1 : Nat)) y u pk by_ = _
  unfold lyE lyS ly0
  rw [show y + 2 + 2 * ((0 : Nat) : Int) = y + 2 by omega, show y + 6 + 2 * ((0 : Nat) : Int) = y + 6 by omega, show y + 10 + 8 * ((0 : Nat) : Int) = y + 10 by omega, show y + 26 + 4 * ((0 : Nat) : Int) = y + 26 by omega, show y + 2 + 2 * ((1 : Nat) : Int) = y + 4 by omega, show y + 6 + 2 * ((1 : Nat) : Int) = y + 8 by omega, show y + 10 + 8 * ((1 : Nat) : Int) = y + 18 by omega, show y + 26 + 4 * ((1 : Nat) : Int) = y + 30 by omega]
  rfl
end
section
/-! ===== the class: export ===== -/
theorem tpb {M : jm} (h : CI M) (i : Int) : 0 ≤ M 1 i ∧ M 1 i ≤ 255 := CI.r h (show kd 1 = 43 from rfl) (by decide) i
theorem PN.pt {T M : jm} {c : Nat} {y n v : Int} (h : PN T M c y n v n 1600) (h0 : 0 ≤ y ∧ y + n ≤ 1600) : M c = ptn (T c) y n v := by
  funext k
  rw [h.1 k]
  unfold pnf ptn
  by_cases q : y ≤ k ∧ k < y + n
  · rw [if_pos (by omega), if_pos q]
  · rw [if_neg (by omega), if_neg q]
theorem c_PacketWall_numberAt_tx_L5 {A : Nat → Option (Nat × (Nat → Int32))} {Q : Option Value → jm → Prop} {M : jm} (hC_M : CI M) {y : Int} {z : Int} (q : ∀ (r : Int), (-9223372036854775808) ≤ r ∧ r ≤ 9223372036854775807 → (r = jl_w (nbs (M 1) y z.toNat)) → Q (some (.long (Int64.ofInt r))) M) : ∀ (nM : Nat) (n : Int) (i : Int), 0 ≤ y ∧ y ≤ 1600 → 0 ≤ z ∧ z ≤ 8 → (-9223372036854775808) ≤ n ∧ n ≤ 9223372036854775807 → 0 ≤ i ∧ i ≤ 1608 → (n = jl_w (nbs (M 1) y (i - y).toNat)) → (y ≤ i ∧ i ≤ y + z ∧ y + z ≤ 1600) → y + z - i ≤ nM → jr A 0 xm_52 5 [(1, .int (Int32.ofInt (y))), (2, .int (Int32.ofInt (z))), (3, .long (Int64.ofInt (n))), (5, .int (Int32.ofInt (i))), (0, .ref (1))] [] M Q := by
  intro nM
  induction nM using Nat.strongRecOn with
  | ind nM ih =>
    intro n i h_y h_z h_n h_i hy0 hy1 hm
    refine jr.iload rfl rfl ?_
    refine jr.iload_n rfl rfl ?_
    refine jr.iload_n rfl rfl ?_
    refine jr.iadd rfl ?_
    refine jr.icmp_ge rfl rfl (by omega) (by omega) (fun h10 => ?_) (fun h10 => ?_)
    · refine jr.lload_n rfl rfl ?_
      exact jr.lreturn rfl rfl (q _ (by omega) (by rw [hy0, show i - y = z from by omega]))
    · refine jr.lload_n rfl rfl ?_
      refine jr.bipush rfl (by decide) ?_
      refine jr.lshl rfl ?_
      refine jr.iload rfl rfl ?_
      refine jr.if_lt rfl rfl (by omega) (fun h19 => ?_) (fun h19 => ?_)
      · exact absurd h19 (by omega)
      · refine jr.iload rfl rfl ?_
        refine jr.aload_n rfl rfl ?_
        refine jr.alen0 (x := 1600) rfl (by decide) rfl rfl ?_
        refine jr.icmp_ge rfl rfl (by omega) (by omega) (fun h26 => ?_) (fun h26 => ?_)
        · refine jr.iconst rfl ?_
          refine jr.i2l rfl (by omega) ?_
          refine jr.lor rfl ?_
          have b1 : jl_or (jl_shl n 8) 0 = jl_w (n * 256 + 0) ∧ -9223372036854775808 ≤ jl_or (jl_shl n 8) 0 ∧ jl_or (jl_shl n 8) 0 ≤ 9223372036854775807 := ⟨jl_sho_w (by omega), jbl_any _⟩
          generalize jl_or (jl_shl n 8) 0 = v1 at b1 ⊢
          refine jr.lstore_n rfl (by decide) rfl ?_
          refine jr.iinc rfl rfl (by decide) rfl ?_
          refine jr.goto rfl rfl ?_
          refine jr.pick [2, 3, 1, 0, 4] rfl rfl ?_
          exact ih (nM - 1) (by omega) v1 (i + 1) (by omega) (by omega) (by omega) (by omega) (b1.1.trans (nbw_s (by omega) hy0 (by omega))) (by omega) (by omega)
        · refine jr.aload_n rfl rfl ?_
          refine jr.iload rfl rfl ?_
          obtain ⟨v2, e2⟩ : ∃ z_, M 1 i = z_ := ⟨_, rfl⟩
          have b2 : 0 ≤ v2 ∧ v2 ≤ 255 := by rw [← e2]; exact (CI.r hC_M (show kd 1 = 43 from rfl) (by decide) i)
          refine jr.iald (i := i) (x := v2) rfl (by decide) rfl (by decide) (by omega) (by omega) e2 ?_
          refine jr.goto rfl rfl ?_
          refine jr.i2l rfl (by omega) ?_
          refine jr.lor rfl ?_
          have b3 : jl_or (jl_shl n 8) v2 = jl_w (n * 256 + v2) ∧ -9223372036854775808 ≤ jl_or (jl_shl n 8) v2 ∧ jl_or (jl_shl n 8) v2 ≤ 9223372036854775807 := ⟨jl_sho_w (by omega), jbl_any _⟩
          generalize jl_or (jl_shl n 8) v2 = v3 at b3 ⊢
          refine jr.lstore_n rfl (by decide) rfl ?_
          refine jr.iinc rfl rfl (by decide) rfl ?_
          refine jr.goto rfl rfl ?_
          refine jr.pick [2, 3, 1, 0, 4] rfl rfl ?_
          exact ih (nM - 1) (by omega) v3 (i + 1) (by omega) (by omega) (by omega) (by omega) (b3.1.trans (nbw_s (by omega) hy0 (by omega))) (by omega) (by omega)
theorem c_PacketWall_numberAt_tx {A : Nat → Option (Nat × (Nat → Int32))} {Q : Option Value → jm → Prop} {M : jm} (hC_M : CI M) {y : Int} (h_y : 0 ≤ y ∧ y ≤ 1600) {z : Int} (h_z : 0 ≤ z ∧ z ≤ 8) (p0 : y + z ≤ 1600) (q : ∀ (r : Int), (-9223372036854775808) ≤ r ∧ r ≤ 9223372036854775807 → (r = jl_w (nbs (M 1) y z.toNat)) → Q (some (.long (Int64.ofInt r))) M) : jc A 1 52 [.ref (1), .int (Int32.ofInt (y)), .int (Int32.ofInt (z))] M Q := by
  refine jc_of (m := xm_52) rfl (Nat.le_of_ble_eq_true rfl) rfl ?_
  refine jr.lconst (x := 0) rfl (by decide) ?_
  refine jr.lstore_n rfl (by decide) rfl ?_
  refine jr.iload_n rfl rfl ?_
  refine jr.istore rfl (by decide) rfl ?_
  refine jr.pick [3, 4, 1, 0, 2] rfl rfl ?_
  exact c_PacketWall_numberAt_tx_L5 hC_M  q 8 0 y (by omega) (by omega) (by omega) (by omega) (nbw_0 _ _) (by omega) (by omega)
theorem c_PacketWall_addedTwos_tx_L5 {A : Nat → Option (Nat × (Nat → Int32))} {Q : Option Value → jm → Prop} {M : jm} (hC_M : CI M) {y : Int} {z : Int} (q : ∀ (r : Int), 0 ≤ r ∧ r ≤ 110000000 → (r = sb (M 1) y (z - y).toNat) → Q (some (.long (Int64.ofInt r))) M) : ∀ (nM : Nat) (n : Int) (i : Int), 0 ≤ y ∧ y ≤ 1600 → 0 ≤ z ∧ z ≤ 1600 → 0 ≤ n ∧ n ≤ 104900000 → 0 ≤ i ∧ i ≤ 1602 → ((i ≤ z ∧ n = sb (M 1) y (i - y).toNat ∧ (i - y) % 2 = 0) ∨ (i = z + 1 ∧ n = sb (M 1) y (z - y).toNat)) → (y ≤ i ∧ y ≤ z ∧ n ≤ 65535 * (i - y)) → z - i ≤ nM → jr A 1 xm_54 5 [(1, .int (Int32.ofInt (y))), (2, .int (Int32.ofInt (z))), (3, .long (Int64.ofInt (n))), (5, .int (Int32.ofInt (i))), (0, .ref (1))] [] M Q := by
  intro nM
  induction nM using Nat.strongRecOn with
  | ind nM ih =>
    intro n i h_y h_z h_n h_i hy0 hy1 hm
    refine jr.iload rfl rfl ?_
    refine jr.iload_n rfl rfl ?_
    refine jr.icmp_ge rfl rfl (by omega) (by omega) (fun h8 => ?_) (fun h8 => ?_)
    · refine jr.lload_n rfl rfl ?_
      exact jr.lreturn rfl rfl (q _ (by omega) (by rcases hy0 with ⟨h1, h2, h3⟩ | ⟨h1, h2⟩; rw [h2, show i = z from by omega]; exact h2))
    · refine jr.lload_n rfl rfl ?_
      refine jr.iload rfl rfl ?_
      refine jr.iconst rfl ?_
      refine jr.iadd rfl ?_
      refine jr.iload_n rfl rfl ?_
      refine jr.icmp_ge rfl rfl (by omega) (by omega) (fun h17 => ?_) (fun h17 => ?_)
      · refine jr.aload_n rfl rfl ?_
        refine jr.iload rfl rfl ?_
        refine jr.iconst rfl ?_
        refine jr_s rfl rfl (Or.inl rfl) ⟨Nat.le_of_ble_eq_true rfl, Nat.le_of_ble_eq_true rfl⟩ rfl rfl (jc.deep (c_PacketWall_numberAt_tx hC_M (by omega) (by omega) (by omega) (fun r1 z1 w1_0 => ?_)) (by decide))
        have hb1 := tpb hC_M i
        have hv1 : r1 = M 1 i := (by have hq := w1_0; rw [show (1 : Int).toNat = 1 from rfl, nbs_1, jl_w_id (by omega)] at hq; exact hq)
        refine jr.bipush rfl (by decide) ?_
        refine jr.lshl rfl ?_
        have b2 : jl_shl r1 8 = r1 * 256 := jl_shl_8x (by omega)
        generalize jl_shl r1 8 = v2 at b2 ⊢
        refine jr.ladd rfl ?_
        refine jr.lstore_n rfl (by decide) rfl ?_
        refine jr.iinc rfl rfl (by decide) rfl ?_
        refine jr.goto rfl rfl ?_
        refine jr.pick [2, 3, 1, 0, 4] rfl rfl ?_
        exact ih (nM - 1) (by omega) (n + v2) (i + 2) (by omega) (by omega) (by omega) (by omega) (by rcases hy0 with ⟨h1, h2, h3⟩ | ⟨h1, h2⟩; exact Or.inr ⟨by omega, by rw [show z = i + 1 from by omega, sb_s (by omega), if_pos (by omega), ← h2]; omega⟩; omega) (by omega) (by omega)
      · refine jr.aload_n rfl rfl ?_
        refine jr.iload rfl rfl ?_
        refine jr.iconst rfl ?_
        refine jr_s rfl rfl (Or.inl rfl) ⟨Nat.le_of_ble_eq_true rfl, Nat.le_of_ble_eq_true rfl⟩ rfl rfl (jc.deep (c_PacketWall_numberAt_tx hC_M (by omega) (by omega) (by omega) (fun r3 z3 w3_0 => ?_)) (by decide))
        have hb1 := tpb hC_M i
        have hb2 := tpb hC_M (i + 1)
        have hv3 : r3 = M 1 i * 256 + M 1 (i + 1) := (by have hq := w3_0; rw [show (2 : Int).toNat = 2 from rfl, nbs_2, jl_w_id (by omega)] at hq; exact hq)
        refine jr.goto rfl rfl ?_
        refine jr.ladd rfl ?_
        refine jr.lstore_n rfl (by decide) rfl ?_
        refine jr.iinc rfl rfl (by decide) rfl ?_
        refine jr.goto rfl rfl ?_
        refine jr.pick [2, 3, 1, 0, 4] rfl rfl ?_
        exact ih (nM - 1) (by omega) (n + r3) (i + 2) (by omega) (by omega) (by omega) (by omega) (by rcases hy0 with ⟨h1, h2, h3⟩ | ⟨h1, h2⟩; exact Or.inl ⟨by omega, by rw [show i + 2 = (i + 1) + 1 from by omega, sb_s (i := i + 1) (by omega), sb_s (by omega), if_pos (by omega), if_neg (by omega), ← h2]; omega, by omega⟩; omega) (by omega) (by omega)
theorem c_PacketWall_addedTwos_tx {A : Nat → Option (Nat × (Nat → Int32))} {Q : Option Value → jm → Prop} {M : jm} (hC_M : CI M) {y : Int} (h_y : 0 ≤ y ∧ y ≤ 1600) {z : Int} (h_z : 0 ≤ z ∧ z ≤ 1600) (p0 : y ≤ z) (q : ∀ (r : Int), 0 ≤ r ∧ r ≤ 110000000 → (r = sb (M 1) y (z - y).toNat) → Q (some (.long (Int64.ofInt r))) M) : jc A 2 54 [.ref (1), .int (Int32.ofInt (y)), .int (Int32.ofInt (z))] M Q := by
  refine jc_of (m := xm_54) rfl (Nat.le_of_ble_eq_true rfl) rfl ?_
  refine jr.lconst (x := 0) rfl (by decide) ?_
  refine jr.lstore_n rfl (by decide) rfl ?_
  refine jr.iload_n rfl rfl ?_
  refine jr.istore rfl (by decide) rfl ?_
  refine jr.pick [3, 4, 1, 0, 2] rfl rfl ?_
  exact c_PacketWall_addedTwos_tx_L5 hC_M  q 1600 0 y (by omega) (by omega) (by omega) (by omega) (Or.inl ⟨by omega, (sb_0 _ _).symm, by omega⟩) (by omega) (by omega)
noncomputable def flgF (M : jm) (t : Nat) : Int := (if M t 1 = 0 then 0 else 16) + (if M (t + 4) 0 = 0 then 0 else 32) + (if M (t + 4) 1 = 0 then 0 else 64) + (if M t 12 = 0 then 0 else 128)
/-- the row that a flow of the class tells -/
noncomputable def rcB (T : jm) (t : Nat) (Z : Int) : Int → Int := xrB (T t 2) (j_w (T t 5 + flgF T t)) (T (t + 2) 0) (T (t + 2) 1) (T (t + 5) 0) (T (t + 5) 1) (T (t + 1) 0) (T (t + 1) 1) (T (t + 3) 0) (T (t + 3) 1) (j_w (T t 6 - Z)) (jl_w (T (t + 6) 0 + T (t + 6) 1)) (jl_w (T (t + 7) 0 + T (t + 7) 1))
theorem rcB_e {M T : jm} {t : Nat} {Z : Int} (h : ∀ (b : Nat) (k : Int), b ≠ 1 → M b k = T b k) (ht : 1 < t) : rcB M t Z = rcB T t Z := by
  unfold rcB flgF
  rw [h t 1 (by omega), h t 2 (by omega), h t 5 (by omega), h t 6 (by omega), h t 12 (by omega), h (t + 1) 0 (by omega), h (t + 1) 1 (by omega), h (t + 2) 0 (by omega), h (t + 2) 1 (by omega), h (t + 3) 0 (by omega), h (t + 3) 1 (by omega), h (t + 4) 0 (by omega), h (t + 4) 1 (by omega), h (t + 5) 0 (by omega), h (t + 5) 1 (by omega), h (t + 6) 0 (by omega), h (t + 6) 1 (by omega), h (t + 7) 0 (by omega), h (t + 7) 1 (by omega)]
theorem lay_fin {f : Int → Int} {M Ma Mb Mc Md : jm} {y n s u pk by_ sm r : Int} {p w a l : Int → Int} (hy : 0 ≤ y ∧ y ≤ 1552) (hM : M 1 = lyI (ly0 f y n s) y p w a l 2) (ha : PN M Ma 1 (y + 34) 4 u 4 1600) (hb : PN Ma Mb 1 (y + 38) 4 pk 4 1600) (hc : PN Mb Mc 1 (y + 42) 4 by_ 4 1600) (hd : PN Mc Md 1 (y + 46) 2 sm 2 1600) (hs : sm = tn r) (hr : r = sb (Mc 1) y (y + 46 - y).toNat) : Md 1 = rwl f y (xrB n s (p 0) (p 1) (w 0) (w 1) (a 0) (a 1) (l 0) (l 1) u pk by_) := by
  have e : Mc 1 = xrF f y (xrB n s (p 0) (p 1) (w 0) (w 1) (a 0) (a 1) (l 0) (l 1) u pk by_) := by
    rw [← lyx, ← hM]
    unfold lyE
    rw [hc.pt (by omega), hb.pt (by omega), ha.pt (by omega)]
  rw [hd.pt (by omega), hs, hr, e, show (y + 46 - y).toNat = 46 by omega]
  rfl
noncomputable def W_c_Flow_layRow_x : List (Nat × Nat) := [(43, 1000)]
theorem c_Flow_layRow_x_L92 {A : Nat → Option (Nat × (Nat → Int32))} {Q : Option Value → jm → Prop} {T : jm} {t : Nat} (k_t : kd t = 1) {y : Int} {z : Int} (q : ∀ (M' : jm), CI M' → FR W_c_Flow_layRow_x T M' → (M' 1 = rwl (T 1) y (rcB T t z) ∧ ∀ (b : Nat) (k : Int), b ≠ 1 → M' b k = T b k) → Q none M') : ∀ (nM : Nat) (M : jm) (i : Int), CI M → FR W_c_Flow_layRow_x T M → 0 ≤ y ∧ y ≤ 1552 → 0 ≤ z ∧ z ≤ 2000000000 → 0 ≤ i ∧ i ≤ 2 → (M 1 = lyI (ly0 (T 1) y (T t 2) (j_w (T t 5 + flgF T t))) y (T (t + 2)) (T (t + 5)) (T (t + 1)) (T (t + 3)) i.toNat) → (∀ (b : Nat) (k : Int), b ≠ 1 → M b k = T b k) → 2 - i ≤ nM → jr A 2 xm_64 92 [(2, .int (Int32.ofInt (y))), (3, .int (Int32.ofInt (z))), (5, .int (Int32.ofInt (i))), (0, .ref (t)), (1, .ref (1))] [] M Q := by
  intro nM
  induction nM using Nat.strongRecOn with
  | ind nM ih =>
    intro M i hC_M ht_M h_y h_z h_i hy0 hy1 hm
    refine jr.iload rfl rfl ?_
    refine jr.iconst rfl ?_
    refine jr.icmp_ge rfl rfl (by omega) (by omega) (fun h95 => ?_) (fun h95 => ?_)
    · refine jr.aload_n rfl rfl ?_
      refine jr.iload_n rfl rfl ?_
      refine jr.bipush rfl (by decide) ?_
      refine jr.iadd rfl ?_
      refine jr.iconst rfl ?_
      refine jr.aload_n rfl rfl ?_
      obtain ⟨v1, e1⟩ : ∃ z_, M t 6 = z_ := ⟨_, rfl⟩
      have b1 : (-2147483648) ≤ v1 ∧ v1 ≤ 2147483647 := by rw [← e1]; exact (CI.r hC_M k_t (by decide) 6)
      refine jr.getf (i := 6) (x := v1) (v := .int (Int32.ofInt (v1))) rfl rfl (Nat.lt_trans (kx_1 k_t).1 (by decide)) (kx_1 k_t).2 (by decide) rfl rfl e1 rfl ?_
      refine jr.iload_n rfl rfl ?_
      refine jr.isub rfl ?_
      refine jr.iw (j_w (v1 - z)) (j_w_eq _) ?_
      have b2 : -2147483648 ≤ j_w (v1 - z) ∧ j_w (v1 - z) ≤ 2147483647 := jb_any _
      refine jr.i2l rfl (by omega) ?_
      refine jr_s rfl rfl (Or.inr rfl) ⟨Nat.le_of_ble_eq_true rfl, Nat.le_of_ble_eq_true rfl⟩ rfl rfl (jc.deep (c_PacketWall_putNumber_tf hC_M (FR.rfl _ M) (show kd 1 = 43 from rfl) (by omega) (by omega) (by omega) rfl (fun M3 hC_M3 hf_M3 w3_0 => ?_)) (by decide))
      have ht_M3 : FR W_c_Flow_layRow_x T M3 := FR.t ht_M hf_M3 (kw_sub rfl)
      refine jr.aload_n rfl rfl ?_
      refine jr.iload_n rfl rfl ?_
      refine jr.bipush rfl (by decide) ?_
      refine jr.iadd rfl ?_
      refine jr.iconst rfl ?_
      refine jr.aload_n rfl rfl ?_
      have k4 := kf_1_10 k_t
      refine jr.getf (i := 10) (v := .ref (t + 6)) rfl rfl (Nat.lt_trans (kx_1 k_t).1 (by decide)) (kx_1 k_t).2 (by decide) rfl rfl rfl (jval_ref rfl k4.1) ?_
      refine jr.iconst rfl ?_
      obtain ⟨v5, e5⟩ : ∃ z_, M ((t + 6)) 0 = z_ := ⟨_, rfl⟩
      have b5 : (-9223372036854775808) ≤ v5 ∧ v5 ≤ 9223372036854775807 := by rw [← e5]; exact (CI.r hC_M k4.2 (by decide) 0)
      have e6 : M3 ((t + 6)) 0 = v5 := (hf_M3.g k4.2 rfl).trans e5
      refine jr.lald (i := 0) (x := v5) rfl (Nat.lt_trans (kx_6 k4.2).1 (by decide)) (kx_6 k4.2).2 (by decide) (by omega) (by omega) e6 ?_
      refine jr.aload_n rfl rfl ?_
      have k7 := kf_1_10 k_t
      refine jr.getf (i := 10) (v := .ref (t + 6)) rfl rfl (Nat.lt_trans (kx_1 k_t).1 (by decide)) (kx_1 k_t).2 (by decide) rfl rfl rfl (jval_ref rfl k7.1) ?_
      refine jr.iconst rfl ?_
      obtain ⟨v8, e8⟩ : ∃ z_, M ((t + 6)) 1 = z_ := ⟨_, rfl⟩
      have b8 : (-9223372036854775808) ≤ v8 ∧ v8 ≤ 9223372036854775807 := by rw [← e8]; exact (CI.r hC_M k7.2 (by decide) 1)
      have e9 : M3 ((t + 6)) 1 = v8 := (hf_M3.g k7.2 rfl).trans e8
      refine jr.lald (i := 1) (x := v8) rfl (Nat.lt_trans (kx_6 k7.2).1 (by decide)) (kx_6 k7.2).2 (by decide) (by omega) (by omega) e9 ?_
      refine jr.ladd rfl ?_
      refine jr.lw (jl_w (v5 + v8)) (jl_w_eq _) ?_
      have b10 : -9223372036854775808 ≤ jl_w (v5 + v8) ∧ jl_w (v5 + v8) ≤ 9223372036854775807 := jbl_any _
      refine jr_s rfl rfl (Or.inr rfl) ⟨Nat.le_of_ble_eq_true rfl, Nat.le_of_ble_eq_true rfl⟩ rfl rfl (jc.deep (c_PacketWall_putNumber_tf hC_M3 (FR.rfl _ M3) (show kd 1 = 43 from rfl) (by omega) (by omega) (by omega) rfl (fun M11 hC_M11 hf_M11 w11_0 => ?_)) (by decide))
      have ht_M11 : FR W_c_Flow_layRow_x T M11 := FR.t ht_M3 hf_M11 (kw_sub rfl)
      refine jr.aload_n rfl rfl ?_
      refine jr.iload_n rfl rfl ?_
      refine jr.bipush rfl (by decide) ?_
      refine jr.iadd rfl ?_
      refine jr.iconst rfl ?_
      refine jr.aload_n rfl rfl ?_
      have k12 := kf_1_11 k_t
      refine jr.getf (i := 11) (v := .ref (t + 7)) rfl rfl (Nat.lt_trans (kx_1 k_t).1 (by decide)) (kx_1 k_t).2 (by decide) rfl rfl rfl (jval_ref rfl k12.1) ?_
      refine jr.iconst rfl ?_
      obtain ⟨v13, e13⟩ : ∃ z_, M ((t + 7)) 0 = z_ := ⟨_, rfl⟩
      have b13 : (-9223372036854775808) ≤ v13 ∧ v13 ≤ 9223372036854775807 := by rw [← e13]; exact (CI.r hC_M k12.2 (by decide) 0)
      have e14 : M3 ((t + 7)) 0 = v13 := (hf_M3.g k12.2 rfl).trans e13
      have e15 : M11 ((t + 7)) 0 = v13 := (hf_M11.g k12.2 rfl).trans e14
      refine jr.lald (i := 0) (x := v13) rfl (Nat.lt_trans (kx_3 k12.2).1 (by decide)) (kx_3 k12.2).2 (by decide) (by omega) (by omega) e15 ?_
      refine jr.aload_n rfl rfl ?_
      have k16 := kf_1_11 k_t
      refine jr.getf (i := 11) (v := .ref (t + 7)) rfl rfl (Nat.lt_trans (kx_1 k_t).1 (by decide)) (kx_1 k_t).2 (by decide) rfl rfl rfl (jval_ref rfl k16.1) ?_
      refine jr.iconst rfl ?_
      obtain ⟨v17, e17⟩ : ∃ z_, M ((t + 7)) 1 = z_ := ⟨_, rfl⟩
      have b17 : (-9223372036854775808) ≤ v17 ∧ v17 ≤ 9223372036854775807 := by rw [← e17]; exact (CI.r hC_M k16.2 (by decide) 1)
      have e18 : M3 ((t + 7)) 1 = v17 := (hf_M3.g k16.2 rfl).trans e17
      have e19 : M11 ((t + 7)) 1 = v17 := (hf_M11.g k16.2 rfl).trans e18
      refine jr.lald (i := 1) (x := v17) rfl (Nat.lt_trans (kx_3 k16.2).1 (by decide)) (kx_3 k16.2).2 (by decide) (by omega) (by omega) e19 ?_
      refine jr.ladd rfl ?_
      refine jr.lw (jl_w (v13 + v17)) (jl_w_eq _) ?_
      have b20 : -9223372036854775808 ≤ jl_w (v13 + v17) ∧ jl_w (v13 + v17) ≤ 9223372036854775807 := jbl_any _
      refine jr_s rfl rfl (Or.inr rfl) ⟨Nat.le_of_ble_eq_true rfl, Nat.le_of_ble_eq_true rfl⟩ rfl rfl (jc.deep (c_PacketWall_putNumber_tf hC_M11 (FR.rfl _ M11) (show kd 1 = 43 from rfl) (by omega) (by omega) (by omega) rfl (fun M21 hC_M21 hf_M21 w21_0 => ?_)) (by decide))
      have ht_M21 : FR W_c_Flow_layRow_x T M21 := FR.t ht_M11 hf_M21 (kw_sub rfl)
      refine jr.aload_n rfl rfl ?_
      refine jr.iload_n rfl rfl ?_
      refine jr.bipush rfl (by decide) ?_
      refine jr.iadd rfl ?_
      refine jr.iconst rfl ?_
      refine jr.aload_n rfl rfl ?_
      refine jr.iload_n rfl rfl ?_
      refine jr.iload_n rfl rfl ?_
      refine jr.bipush rfl (by decide) ?_
      refine jr.iadd rfl ?_
      refine jr_s rfl rfl (Or.inr rfl) ⟨Nat.le_of_ble_eq_true rfl, Nat.le_of_ble_eq_true rfl⟩ rfl rfl (jc.deep (c_PacketWall_addedTwos_tx hC_M21 (by omega) (by omega) (by omega) (fun r22 z22 w22_0 => ?_)) (by decide))
      refine jr_s rfl rfl (Or.inr rfl) ⟨Nat.le_of_ble_eq_true rfl, Nat.le_of_ble_eq_true rfl⟩ rfl rfl (jc.deep (c_PacketWall_foldedSum_x hC_M21 (by omega) (fun r23 z23 w23_0 => ?_)) (by decide))
      refine jr.i2l rfl (by omega) ?_
      refine jr_s rfl rfl (Or.inr rfl) ⟨Nat.le_of_ble_eq_true rfl, Nat.le_of_ble_eq_true rfl⟩ rfl rfl (jc.deep (c_PacketWall_putNumber_tf hC_M21 (FR.rfl _ M21) (show kd 1 = 43 from rfl) (by omega) (by omega) (by omega) rfl (fun M24 hC_M24 hf_M24 w24_0 => ?_)) (by decide))
      have ht_M24 : FR W_c_Flow_layRow_x T M24 := FR.t ht_M21 hf_M24 (kw_sub rfl)
      exact jr.vreturn rfl rfl (q _ hC_M24 ht_M24  ⟨(by unfold rcB; rw [(show T t 6 = _ from (hy1 t 6 (kd_ne (by rw [k_t]; decide))).symm.trans e1), (show T (t + 6) 0 = _ from (hy1 (t + 6) 0 (kd_ne (by rw [(kf_1_10 k_t).2]; decide))).symm.trans e5), (show T (t + 6) 1 = _ from (hy1 (t + 6) 1 (kd_ne (by rw [(kf_1_10 k_t).2]; decide))).symm.trans e8), (show T (t + 7) 0 = _ from (hy1 (t + 7) 0 (kd_ne (by rw [(kf_1_11 k_t).2]; decide))).symm.trans e13), (show T (t + 7) 1 = _ from (hy1 (t + 7) 1 (kd_ne (by rw [(kf_1_11 k_t).2]; decide))).symm.trans e17)]; exact lay_fin (by omega) (by have h9 := hy0; rw [show i = 2 from by omega] at h9; exact h9) w3_0 w11_0 w21_0 w24_0 w23_0 w22_0), (fun b k hb => ((w24_0.2 b k hb).trans ((w21_0.2 b k hb).trans ((w11_0.2 b k hb).trans ((w3_0.2 b k hb).trans (hy1 b k hb))))))⟩)
    · refine jr.aload_n rfl rfl ?_
      refine jr.iload_n rfl rfl ?_
      refine jr.iconst rfl ?_
      refine jr.iadd rfl ?_
      refine jr.iconst rfl ?_
      refine jr.iload rfl rfl ?_
      refine jr.imul rfl ?_
      refine jr.iadd rfl ?_
      refine jr.iconst rfl ?_
      refine jr.aload_n rfl rfl ?_
      have k25 := kf_1_4 k_t
      refine jr.getf (i := 4) (v := .ref (t + 2)) rfl rfl (Nat.lt_trans (kx_1 k_t).1 (by decide)) (kx_1 k_t).2 (by decide) rfl rfl rfl (jval_ref rfl k25.1) ?_
      refine jr.iload rfl rfl ?_
      obtain ⟨v26, e26⟩ : ∃ z_, M ((t + 2)) i = z_ := ⟨_, rfl⟩
      have b26 : (-2147483648) ≤ v26 ∧ v26 ≤ 2147483647 := by rw [← e26]; exact (CI.r hC_M k25.2 (by decide) i)
      refine jr.iald (i := i) (x := v26) rfl (Nat.lt_trans (kx_7 k25.2).1 (by decide)) (kx_7 k25.2).2 (by decide) (by omega) (by omega) e26 ?_
      refine jr.i2l rfl (by omega) ?_
      refine jr_s rfl rfl (Or.inr rfl) ⟨Nat.le_of_ble_eq_true rfl, Nat.le_of_ble_eq_true rfl⟩ rfl rfl (jc.deep (c_PacketWall_putNumber_tf hC_M (FR.rfl _ M) (show kd 1 = 43 from rfl) (by omega) (by omega) (by omega) rfl (fun M27 hC_M27 hf_M27 w27_0 => ?_)) (by decide))
      have ht_M27 : FR W_c_Flow_layRow_x T M27 := FR.t ht_M hf_M27 (kw_sub rfl)
      refine jr.aload_n rfl rfl ?_
      refine jr.iload_n rfl rfl ?_
      refine jr.bipush rfl (by decide) ?_
      refine jr.iadd rfl ?_
      refine jr.iconst rfl ?_
      refine jr.iload rfl rfl ?_
      refine jr.imul rfl ?_
      refine jr.iadd rfl ?_
      refine jr.iconst rfl ?_
      refine jr.aload_n rfl rfl ?_
      have k28 := kf_1_9 k_t
      refine jr.getf (i := 9) (v := .ref (t + 5)) rfl rfl (Nat.lt_trans (kx_1 k_t).1 (by decide)) (kx_1 k_t).2 (by decide) rfl rfl rfl (jval_ref rfl k28.1) ?_
      refine jr.iload rfl rfl ?_
      obtain ⟨v29, e29⟩ : ∃ z_, M ((t + 5)) i = z_ := ⟨_, rfl⟩
      have b29 : (-2147483648) ≤ v29 ∧ v29 ≤ 2147483647 := by rw [← e29]; exact (CI.r hC_M k28.2 (by decide) i)
      have e30 : M27 ((t + 5)) i = v29 := (hf_M27.g k28.2 rfl).trans e29
      refine jr.iald (i := i) (x := v29) rfl (Nat.lt_trans (kx_8 k28.2).1 (by decide)) (kx_8 k28.2).2 (by decide) (by omega) (by omega) e30 ?_
      refine jr.i2l rfl (by omega) ?_
      refine jr_s rfl rfl (Or.inr rfl) ⟨Nat.le_of_ble_eq_true rfl, Nat.le_of_ble_eq_true rfl⟩ rfl rfl (jc.deep (c_PacketWall_putNumber_tf hC_M27 (FR.rfl _ M27) (show kd 1 = 43 from rfl) (by omega) (by omega) (by omega) rfl (fun M31 hC_M31 hf_M31 w31_0 => ?_)) (by decide))
      have ht_M31 : FR W_c_Flow_layRow_x T M31 := FR.t ht_M27 hf_M31 (kw_sub rfl)
      refine jr.aload_n rfl rfl ?_
      refine jr.iload_n rfl rfl ?_
      refine jr.bipush rfl (by decide) ?_
      refine jr.iadd rfl ?_
      refine jr.bipush rfl (by decide) ?_
      refine jr.iload rfl rfl ?_
      refine jr.imul rfl ?_
      refine jr.iadd rfl ?_
      refine jr.bipush rfl (by decide) ?_
      refine jr.aload_n rfl rfl ?_
      have k32 := kf_1_3 k_t
      refine jr.getf (i := 3) (v := .ref (t + 1)) rfl rfl (Nat.lt_trans (kx_1 k_t).1 (by decide)) (kx_1 k_t).2 (by decide) rfl rfl rfl (jval_ref rfl k32.1) ?_
      refine jr.iload rfl rfl ?_
      obtain ⟨v33, e33⟩ : ∃ z_, M ((t + 1)) i = z_ := ⟨_, rfl⟩
      have b33 : (-9223372036854775808) ≤ v33 ∧ v33 ≤ 9223372036854775807 := by rw [← e33]; exact (CI.r hC_M k32.2 (by decide) i)
      have e34 : M27 ((t + 1)) i = v33 := (hf_M27.g k32.2 rfl).trans e33
      have e35 : M31 ((t + 1)) i = v33 := (hf_M31.g k32.2 rfl).trans e34
      refine jr.lald (i := i) (x := v33) rfl (Nat.lt_trans (kx_2 k32.2).1 (by decide)) (kx_2 k32.2).2 (by decide) (by omega) (by omega) e35 ?_
      refine jr_s rfl rfl (Or.inr rfl) ⟨Nat.le_of_ble_eq_true rfl, Nat.le_of_ble_eq_true rfl⟩ rfl rfl (jc.deep (c_PacketWall_putNumber_tf hC_M31 (FR.rfl _ M31) (show kd 1 = 43 from rfl) (by omega) (by omega) (by omega) rfl (fun M36 hC_M36 hf_M36 w36_0 => ?_)) (by decide))
      have ht_M36 : FR W_c_Flow_layRow_x T M36 := FR.t ht_M31 hf_M36 (kw_sub rfl)
      refine jr.aload_n rfl rfl ?_
      refine jr.iload_n rfl rfl ?_
      refine jr.bipush rfl (by decide) ?_
      refine jr.iadd rfl ?_
      refine jr.iconst rfl ?_
      refine jr.iload rfl rfl ?_
      refine jr.imul rfl ?_
      refine jr.iadd rfl ?_
      refine jr.iconst rfl ?_
      refine jr.aload_n rfl rfl ?_
      have k37 := kf_1_7 k_t
      refine jr.getf (i := 7) (v := .ref (t + 3)) rfl rfl (Nat.lt_trans (kx_1 k_t).1 (by decide)) (kx_1 k_t).2 (by decide) rfl rfl rfl (jval_ref rfl k37.1) ?_
      refine jr.iload rfl rfl ?_
      obtain ⟨v38, e38⟩ : ∃ z_, M ((t + 3)) i = z_ := ⟨_, rfl⟩
      have b38 : (-2147483648) ≤ v38 ∧ v38 ≤ 2147483647 := by rw [← e38]; exact (CI.r hC_M k37.2 (by decide) i)
      have e39 : M27 ((t + 3)) i = v38 := (hf_M27.g k37.2 rfl).trans e38
      have e40 : M31 ((t + 3)) i = v38 := (hf_M31.g k37.2 rfl).trans e39
      have e41 : M36 ((t + 3)) i = v38 := (hf_M36.g k37.2 rfl).trans e40
      refine jr.iald (i := i) (x := v38) rfl (Nat.lt_trans (kx_5 k37.2).1 (by decide)) (kx_5 k37.2).2 (by decide) (by omega) (by omega) e41 ?_
      refine jr.i2l rfl (by omega) ?_
      refine jr_s rfl rfl (Or.inr rfl) ⟨Nat.le_of_ble_eq_true rfl, Nat.le_of_ble_eq_true rfl⟩ rfl rfl (jc.deep (c_PacketWall_putNumber_tf hC_M36 (FR.rfl _ M36) (show kd 1 = 43 from rfl) (by omega) (by omega) (by omega) rfl (fun M42 hC_M42 hf_M42 w42_0 => ?_)) (by decide))
      have ht_M42 : FR W_c_Flow_layRow_x T M42 := FR.t ht_M36 hf_M42 (kw_sub rfl)
      refine jr.iinc rfl rfl (by decide) rfl ?_
      refine jr.goto rfl rfl ?_
      refine jr.pick [1, 2, 0, 3, 4] rfl rfl ?_
      exact ih (nM - 1) (by omega) M42 (i + 1) hC_M42 ht_M42 (by omega) (by omega) (by omega) (by rw [lyI_s (by omega), w42_0.pt (by omega), w36_0.pt (by omega), w31_0.pt (by omega), w27_0.pt (by omega), hy0, (show T (t + 2) i = _ from (hy1 (t + 2) i (kd_ne (by rw [(kf_1_4 k_t).2]; decide))).symm.trans e26), (show T (t + 5) i = _ from (hy1 (t + 5) i (kd_ne (by rw [(kf_1_9 k_t).2]; decide))).symm.trans e29), (show T (t + 1) i = _ from (hy1 (t + 1) i (kd_ne (by rw [(kf_1_3 k_t).2]; decide))).symm.trans e33), (show T (t + 3) i = _ from (hy1 (t + 3) i (kd_ne (by rw [(kf_1_7 k_t).2]; decide))).symm.trans e38)]; rfl) (fun b k hb => ((w42_0.2 b k hb).trans ((w36_0.2 b k hb).trans ((w31_0.2 b k hb).trans ((w27_0.2 b k hb).trans (hy1 b k hb)))))) (by omega)
theorem c_Flow_layRow_x_L62 {A : Nat → Option (Nat × (Nat → Int32))} {Q : Option Value → jm → Prop} {T : jm} {t : Nat} (k_t : kd t = 1) {y : Int} {z : Int} (q : ∀ (M' : jm), CI M' → FR W_c_Flow_layRow_x T M' → (M' 1 = rwl (T 1) y (rcB T t z) ∧ ∀ (b : Nat) (k : Int), b ≠ 1 → M' b k = T b k) → Q none M') : ∀ (nM : Nat) (M : jm) (a_ : Int), CI M → FR W_c_Flow_layRow_x T M → 0 ≤ y ∧ y ≤ 1552 → 0 ≤ z ∧ z ≤ 2000000000 → 0 ≤ a_ ∧ a_ ≤ 240 → (a_ = flgF T t) → (M = T) → 0 ≤ nM → jr A 2 xm_64 62 [(2, .int (Int32.ofInt (y))), (3, .int (Int32.ofInt (z))), (4, .int (Int32.ofInt (a_))), (0, .ref (t)), (1, .ref (1))] [] M Q := by
  intro nM
  induction nM using Nat.strongRecOn with
  | ind nM ih =>
    intro M a_ hC_M ht_M h_y h_z h_a_ hy0 hy1 hm
    refine jr.aload_n rfl rfl ?_
    refine jr.iload_n rfl rfl ?_
    refine jr.iconst rfl ?_
    refine jr.aload_n rfl rfl ?_
    obtain ⟨v1, e1⟩ : ∃ z_, M t 2 = z_ := ⟨_, rfl⟩
    have b1 : (-2147483648) ≤ v1 ∧ v1 ≤ 2147483647 := by rw [← e1]; exact (CI.r hC_M k_t (by decide) 2)
    refine jr.getf (i := 2) (x := v1) (v := .int (Int32.ofInt (v1))) rfl rfl (Nat.lt_trans (kx_1 k_t).1 (by decide)) (kx_1 k_t).2 (by decide) rfl rfl e1 rfl ?_
    refine jr.i2l rfl (by omega) ?_
    refine jr_s rfl rfl (Or.inr rfl) ⟨Nat.le_of_ble_eq_true rfl, Nat.le_of_ble_eq_true rfl⟩ rfl rfl (jc.deep (c_PacketWall_putNumber_tf hC_M (FR.rfl _ M) (show kd 1 = 43 from rfl) (by omega) (by omega) (by omega) rfl (fun M2 hC_M2 hf_M2 w2_0 => ?_)) (by decide))
    have ht_M2 : FR W_c_Flow_layRow_x T M2 := FR.t ht_M hf_M2 (kw_sub rfl)
    refine jr.aload_n rfl rfl ?_
    refine jr.iload_n rfl rfl ?_
    refine jr.iconst rfl ?_
    refine jr.iadd rfl ?_
    refine jr.iconst rfl ?_
    refine jr.aload_n rfl rfl ?_
    obtain ⟨v3, e3⟩ : ∃ z_, M t 5 = z_ := ⟨_, rfl⟩
    have b3 : (-2147483648) ≤ v3 ∧ v3 ≤ 2147483647 := by rw [← e3]; exact (CI.r hC_M k_t (by decide) 5)
    have e4 : M2 t 5 = v3 := (hf_M2.g k_t rfl).trans e3
    refine jr.getf (i := 5) (x := v3) (v := .int (Int32.ofInt (v3))) rfl rfl (Nat.lt_trans (kx_1 k_t).1 (by decide)) (kx_1 k_t).2 (by decide) rfl rfl e4 rfl ?_
    refine jr.iload rfl rfl ?_
    refine jr.iadd rfl ?_
    refine jr.iw (j_w (v3 + a_)) (j_w_eq _) ?_
    have b5 : -2147483648 ≤ j_w (v3 + a_) ∧ j_w (v3 + a_) ≤ 2147483647 := jb_any _
    refine jr.i2l rfl (by omega) ?_
    refine jr_s rfl rfl (Or.inr rfl) ⟨Nat.le_of_ble_eq_true rfl, Nat.le_of_ble_eq_true rfl⟩ rfl rfl (jc.deep (c_PacketWall_putNumber_tf hC_M2 (FR.rfl _ M2) (show kd 1 = 43 from rfl) (by omega) (by omega) (by omega) rfl (fun M6 hC_M6 hf_M6 w6_0 => ?_)) (by decide))
    have ht_M6 : FR W_c_Flow_layRow_x T M6 := FR.t ht_M2 hf_M6 (kw_sub rfl)
    refine jr.iconst rfl ?_
    refine jr.istore rfl (by decide) rfl ?_
    refine jr.pick [1, 2, 0, 4, 5] rfl rfl ?_
    exact c_Flow_layRow_x_L92 k_t q 2 M6 0 hC_M6 ht_M6 (by omega) (by omega) (by omega) (by rw [w6_0.pt (by omega), w2_0.pt (by omega), ← hy0, ← hy1, e1, e3]; rfl) (fun b k hb => ((w6_0.2 b k hb).trans ((w2_0.2 b k hb).trans (by rw [hy1])))) (by omega)
theorem c_Flow_layRow_x {A : Nat → Option (Nat × (Nat → Int32))} {Q : Option Value → jm → Prop} {T : jm} {M : jm} (hC_M : CI M) (ht_M : FR W_c_Flow_layRow_x T M) {t : Nat} (k_t : kd t = 1) {y : Int} (h_y : 0 ≤ y ∧ y ≤ 1552) {z : Int} (h_z : 0 ≤ z ∧ z ≤ 2000000000) (p0 : T = M) (q : ∀ (M' : jm), CI M' → FR W_c_Flow_layRow_x T M' → (M' 1 = rwl (T 1) y (rcB T t z) ∧ ∀ (b : Nat) (k : Int), b ≠ 1 → M' b k = T b k) → Q none M') : jc A 3 64 [.ref (t), .ref (1), .int (Int32.ofInt (y)), .int (Int32.ofInt (z))] M Q := by
  refine jc_of (m := xm_64) rfl (Nat.le_of_ble_eq_true rfl) rfl ?_
  refine jr.aload_n rfl rfl ?_
  obtain ⟨v1, e1⟩ : ∃ z_, M t 1 = z_ := ⟨_, rfl⟩
  have b1 : 0 ≤ v1 ∧ v1 ≤ 1 := by rw [← e1]; exact (CI.r hC_M k_t (by decide) 1)
  refine jr.getf (i := 1) (x := v1) (v := .int (Int32.ofInt (v1))) rfl rfl (Nat.lt_trans (kx_1 k_t).1 (by decide)) (kx_1 k_t).2 (by decide) rfl rfl e1 rfl ?_
  refine jr.if_eq rfl rfl (by omega) (fun h4 => ?_) (fun h4 => ?_)
  · refine jr.iconst rfl ?_
    refine jr.aload_n rfl rfl ?_
    have k2 := kf_1_8 k_t
    refine jr.getf (i := 8) (v := .ref (t + 4)) rfl rfl (Nat.lt_trans (kx_1 k_t).1 (by decide)) (kx_1 k_t).2 (by decide) rfl rfl rfl (jval_ref rfl k2.1) ?_
    refine jr.iconst rfl ?_
    obtain ⟨v3, e3⟩ : ∃ z_, M ((t + 4)) 0 = z_ := ⟨_, rfl⟩
    have b3 : 0 ≤ v3 ∧ v3 ≤ 1 := by rw [← e3]; exact (CI.r hC_M k2.2 (by decide) 0)
    refine jr.zald (i := 0) (x := v3) rfl (Nat.lt_trans (kx_4 k2.2).1 (by decide)) (kx_4 k2.2).2 (by decide) (by omega) (by omega) e3 ?_
    refine jr.if_eq rfl rfl (by omega) (fun h19 => ?_) (fun h19 => ?_)
    · refine jr.iconst rfl ?_
      refine jr.iadd rfl ?_
      refine jr.aload_n rfl rfl ?_
      have k4 := kf_1_8 k_t
      refine jr.getf (i := 8) (v := .ref (t + 4)) rfl rfl (Nat.lt_trans (kx_1 k_t).1 (by decide)) (kx_1 k_t).2 (by decide) rfl rfl rfl (jval_ref rfl k4.1) ?_
      refine jr.iconst rfl ?_
      obtain ⟨v5, e5⟩ : ∃ z_, M ((t + 4)) 1 = z_ := ⟨_, rfl⟩
      have b5 : 0 ≤ v5 ∧ v5 ≤ 1 := by rw [← e5]; exact (CI.r hC_M k4.2 (by decide) 1)
      refine jr.zald (i := 1) (x := v5) rfl (Nat.lt_trans (kx_4 k4.2).1 (by decide)) (kx_4 k4.2).2 (by decide) (by omega) (by omega) e5 ?_
      refine jr.if_eq rfl rfl (by omega) (fun h35 => ?_) (fun h35 => ?_)
      · refine jr.iconst rfl ?_
        refine jr.iadd rfl ?_
        refine jr.aload_n rfl rfl ?_
        obtain ⟨v6, e6⟩ : ∃ z_, M t 12 = z_ := ⟨_, rfl⟩
        have b6 : 0 ≤ v6 ∧ v6 ≤ 1 := by rw [← e6]; exact (CI.r hC_M k_t (by decide) 12)
        refine jr.getf (i := 12) (x := v6) (v := .int (Int32.ofInt (v6))) rfl rfl (Nat.lt_trans (kx_1 k_t).1 (by decide)) (kx_1 k_t).2 (by decide) rfl rfl e6 rfl ?_
        refine jr.if_eq rfl rfl (by omega) (fun h49 => ?_) (fun h49 => ?_)
        · refine jr.iconst rfl ?_
          refine jr.iadd rfl ?_
          refine jr.istore rfl (by decide) rfl ?_
          refine jr.pick [3, 4, 0, 1, 2] rfl rfl ?_
          exact c_Flow_layRow_x_L62 k_t q 0 M (((0 + 0) + 0) + 0) hC_M ht_M (by omega) (by omega) (by omega) (by unfold flgF; rw [p0]; (repeat' split) <;> omega) p0.symm (by omega)
        · have sx49 : (1 : Int) ≤ v6 := by omega
          refine jr.sipush rfl (by decide) ?_
          refine jr.goto rfl rfl ?_
          refine jr.iadd rfl ?_
          refine jr.istore rfl (by decide) rfl ?_
          refine jr.pick [3, 4, 0, 1, 2] rfl rfl ?_
          exact c_Flow_layRow_x_L62 k_t q 0 M (((0 + 0) + 0) + 128) hC_M ht_M (by omega) (by omega) (by omega) (by unfold flgF; rw [p0]; (repeat' split) <;> omega) p0.symm (by omega)
      · have sx35 : (1 : Int) ≤ v5 := by omega
        refine jr.bipush rfl (by decide) ?_
        refine jr.goto rfl rfl ?_
        refine jr.iadd rfl ?_
        refine jr.aload_n rfl rfl ?_
        obtain ⟨v7, e7⟩ : ∃ z_, M t 12 = z_ := ⟨_, rfl⟩
        have b7 : 0 ≤ v7 ∧ v7 ≤ 1 := by rw [← e7]; exact (CI.r hC_M k_t (by decide) 12)
        refine jr.getf (i := 12) (x := v7) (v := .int (Int32.ofInt (v7))) rfl rfl (Nat.lt_trans (kx_1 k_t).1 (by decide)) (kx_1 k_t).2 (by decide) rfl rfl e7 rfl ?_
        refine jr.if_eq rfl rfl (by omega) (fun h49 => ?_) (fun h49 => ?_)
        · refine jr.iconst rfl ?_
          refine jr.iadd rfl ?_
          refine jr.istore rfl (by decide) rfl ?_
          refine jr.pick [3, 4, 0, 1, 2] rfl rfl ?_
          exact c_Flow_layRow_x_L62 k_t q 0 M (((0 + 0) + 64) + 0) hC_M ht_M (by omega) (by omega) (by omega) (by unfold flgF; rw [p0]; (repeat' split) <;> omega) p0.symm (by omega)
        · have sx49 : (1 : Int) ≤ v7 := by omega
          refine jr.sipush rfl (by decide) ?_
          refine jr.goto rfl rfl ?_
          refine jr.iadd rfl ?_
          refine jr.istore rfl (by decide) rfl ?_
          refine jr.pick [3, 4, 0, 1, 2] rfl rfl ?_
          exact c_Flow_layRow_x_L62 k_t q 0 M (((0 + 0) + 64) + 128) hC_M ht_M (by omega) (by omega) (by omega) (by unfold flgF; rw [p0]; (repeat' split) <;> omega) p0.symm (by omega)
    · have sx19 : (1 : Int) ≤ v3 := by omega
      refine jr.bipush rfl (by decide) ?_
      refine jr.goto rfl rfl ?_
      refine jr.iadd rfl ?_
      refine jr.aload_n rfl rfl ?_
      have k8 := kf_1_8 k_t
      refine jr.getf (i := 8) (v := .ref (t + 4)) rfl rfl (Nat.lt_trans (kx_1 k_t).1 (by decide)) (kx_1 k_t).2 (by decide) rfl rfl rfl (jval_ref rfl k8.1) ?_
      refine jr.iconst rfl ?_
      obtain ⟨v9, e9⟩ : ∃ z_, M ((t + 4)) 1 = z_ := ⟨_, rfl⟩
      have b9 : 0 ≤ v9 ∧ v9 ≤ 1 := by rw [← e9]; exact (CI.r hC_M k8.2 (by decide) 1)
      refine jr.zald (i := 1) (x := v9) rfl (Nat.lt_trans (kx_4 k8.2).1 (by decide)) (kx_4 k8.2).2 (by decide) (by omega) (by omega) e9 ?_
      refine jr.if_eq rfl rfl (by omega) (fun h35 => ?_) (fun h35 => ?_)
      · refine jr.iconst rfl ?_
        refine jr.iadd rfl ?_
        refine jr.aload_n rfl rfl ?_
        obtain ⟨v10, e10⟩ : ∃ z_, M t 12 = z_ := ⟨_, rfl⟩
        have b10 : 0 ≤ v10 ∧ v10 ≤ 1 := by rw [← e10]; exact (CI.r hC_M k_t (by decide) 12)
        refine jr.getf (i := 12) (x := v10) (v := .int (Int32.ofInt (v10))) rfl rfl (Nat.lt_trans (kx_1 k_t).1 (by decide)) (kx_1 k_t).2 (by decide) rfl rfl e10 rfl ?_
        refine jr.if_eq rfl rfl (by omega) (fun h49 => ?_) (fun h49 => ?_)
        · refine jr.iconst rfl ?_
          refine jr.iadd rfl ?_
          refine jr.istore rfl (by decide) rfl ?_
          refine jr.pick [3, 4, 0, 1, 2] rfl rfl ?_
          exact c_Flow_layRow_x_L62 k_t q 0 M (((0 + 32) + 0) + 0) hC_M ht_M (by omega) (by omega) (by omega) (by unfold flgF; rw [p0]; (repeat' split) <;> omega) p0.symm (by omega)
        · have sx49 : (1 : Int) ≤ v10 := by omega
          refine jr.sipush rfl (by decide) ?_
          refine jr.goto rfl rfl ?_
          refine jr.iadd rfl ?_
          refine jr.istore rfl (by decide) rfl ?_
          refine jr.pick [3, 4, 0, 1, 2] rfl rfl ?_
          exact c_Flow_layRow_x_L62 k_t q 0 M (((0 + 32) + 0) + 128) hC_M ht_M (by omega) (by omega) (by omega) (by unfold flgF; rw [p0]; (repeat' split) <;> omega) p0.symm (by omega)
      · have sx35 : (1 : Int) ≤ v9 := by omega
        refine jr.bipush rfl (by decide) ?_
        refine jr.goto rfl rfl ?_
        refine jr.iadd rfl ?_
        refine jr.aload_n rfl rfl ?_
        obtain ⟨v11, e11⟩ : ∃ z_, M t 12 = z_ := ⟨_, rfl⟩
        have b11 : 0 ≤ v11 ∧ v11 ≤ 1 := by rw [← e11]; exact (CI.r hC_M k_t (by decide) 12)
        refine jr.getf (i := 12) (x := v11) (v := .int (Int32.ofInt (v11))) rfl rfl (Nat.lt_trans (kx_1 k_t).1 (by decide)) (kx_1 k_t).2 (by decide) rfl rfl e11 rfl ?_
        refine jr.if_eq rfl rfl (by omega) (fun h49 => ?_) (fun h49 => ?_)
        · refine jr.iconst rfl ?_
          refine jr.iadd rfl ?_
          refine jr.istore rfl (by decide) rfl ?_
          refine jr.pick [3, 4, 0, 1, 2] rfl rfl ?_
          exact c_Flow_layRow_x_L62 k_t q 0 M (((0 + 32) + 64) + 0) hC_M ht_M (by omega) (by omega) (by omega) (by unfold flgF; rw [p0]; (repeat' split) <;> omega) p0.symm (by omega)
        · have sx49 : (1 : Int) ≤ v11 := by omega
          refine jr.sipush rfl (by decide) ?_
          refine jr.goto rfl rfl ?_
          refine jr.iadd rfl ?_
          refine jr.istore rfl (by decide) rfl ?_
          refine jr.pick [3, 4, 0, 1, 2] rfl rfl ?_
          exact c_Flow_layRow_x_L62 k_t q 0 M (((0 + 32) + 64) + 128) hC_M ht_M (by omega) (by omega) (by omega) (by unfold flgF; rw [p0]; (repeat' split) <;> omega) p0.symm (by omega)
  · have sx4 : (1 : Int) ≤ v1 := by omega
    refine jr.bipush rfl (by decide) ?_
    refine jr.goto rfl rfl ?_
    refine jr.aload_n rfl rfl ?_
    have k12 := kf_1_8 k_t
    refine jr.getf (i := 8) (v := .ref (t + 4)) rfl rfl (Nat.lt_trans (kx_1 k_t).1 (by decide)) (kx_1 k_t).2 (by decide) rfl rfl rfl (jval_ref rfl k12.1) ?_
    refine jr.iconst rfl ?_
    obtain ⟨v13, e13⟩ : ∃ z_, M ((t + 4)) 0 = z_ := ⟨_, rfl⟩
    have b13 : 0 ≤ v13 ∧ v13 ≤ 1 := by rw [← e13]; exact (CI.r hC_M k12.2 (by decide) 0)
    refine jr.zald (i := 0) (x := v13) rfl (Nat.lt_trans (kx_4 k12.2).1 (by decide)) (kx_4 k12.2).2 (by decide) (by omega) (by omega) e13 ?_
    refine jr.if_eq rfl rfl (by omega) (fun h19 => ?_) (fun h19 => ?_)
    · refine jr.iconst rfl ?_
      refine jr.iadd rfl ?_
      refine jr.aload_n rfl rfl ?_
      have k14 := kf_1_8 k_t
      refine jr.getf (i := 8) (v := .ref (t + 4)) rfl rfl (Nat.lt_trans (kx_1 k_t).1 (by decide)) (kx_1 k_t).2 (by decide) rfl rfl rfl (jval_ref rfl k14.1) ?_
      refine jr.iconst rfl ?_
      obtain ⟨v15, e15⟩ : ∃ z_, M ((t + 4)) 1 = z_ := ⟨_, rfl⟩
      have b15 : 0 ≤ v15 ∧ v15 ≤ 1 := by rw [← e15]; exact (CI.r hC_M k14.2 (by decide) 1)
      refine jr.zald (i := 1) (x := v15) rfl (Nat.lt_trans (kx_4 k14.2).1 (by decide)) (kx_4 k14.2).2 (by decide) (by omega) (by omega) e15 ?_
      refine jr.if_eq rfl rfl (by omega) (fun h35 => ?_) (fun h35 => ?_)
      · refine jr.iconst rfl ?_
        refine jr.iadd rfl ?_
        refine jr.aload_n rfl rfl ?_
        obtain ⟨v16, e16⟩ : ∃ z_, M t 12 = z_ := ⟨_, rfl⟩
        have b16 : 0 ≤ v16 ∧ v16 ≤ 1 := by rw [← e16]; exact (CI.r hC_M k_t (by decide) 12)
        refine jr.getf (i := 12) (x := v16) (v := .int (Int32.ofInt (v16))) rfl rfl (Nat.lt_trans (kx_1 k_t).1 (by decide)) (kx_1 k_t).2 (by decide) rfl rfl e16 rfl ?_
        refine jr.if_eq rfl rfl (by omega) (fun h49 => ?_) (fun h49 => ?_)
        · refine jr.iconst rfl ?_
          refine jr.iadd rfl ?_
          refine jr.istore rfl (by decide) rfl ?_
          refine jr.pick [3, 4, 0, 1, 2] rfl rfl ?_
          exact c_Flow_layRow_x_L62 k_t q 0 M (((16 + 0) + 0) + 0) hC_M ht_M (by omega) (by omega) (by omega) (by unfold flgF; rw [p0]; (repeat' split) <;> omega) p0.symm (by omega)
        · have sx49 : (1 : Int) ≤ v16 := by omega
          refine jr.sipush rfl (by decide) ?_
          refine jr.goto rfl rfl ?_
          refine jr.iadd rfl ?_
          refine jr.istore rfl (by decide) rfl ?_
          refine jr.pick [3, 4, 0, 1, 2] rfl rfl ?_
          exact c_Flow_layRow_x_L62 k_t q 0 M (((16 + 0) + 0) + 128) hC_M ht_M (by omega) (by omega) (by omega) (by unfold flgF; rw [p0]; (repeat' split) <;> omega) p0.symm (by omega)
      · have sx35 : (1 : Int) ≤ v15 := by omega
        refine jr.bipush rfl (by decide) ?_
        refine jr.goto rfl rfl ?_
        refine jr.iadd rfl ?_
        refine jr.aload_n rfl rfl ?_
        obtain ⟨v17, e17⟩ : ∃ z_, M t 12 = z_ := ⟨_, rfl⟩
        have b17 : 0 ≤ v17 ∧ v17 ≤ 1 := by rw [← e17]; exact (CI.r hC_M k_t (by decide) 12)
        refine jr.getf (i := 12) (x := v17) (v := .int (Int32.ofInt (v17))) rfl rfl (Nat.lt_trans (kx_1 k_t).1 (by decide)) (kx_1 k_t).2 (by decide) rfl rfl e17 rfl ?_
        refine jr.if_eq rfl rfl (by omega) (fun h49 => ?_) (fun h49 => ?_)
        · refine jr.iconst rfl ?_
          refine jr.iadd rfl ?_
          refine jr.istore rfl (by decide) rfl ?_
          refine jr.pick [3, 4, 0, 1, 2] rfl rfl ?_
          exact c_Flow_layRow_x_L62 k_t q 0 M (((16 + 0) + 64) + 0) hC_M ht_M (by omega) (by omega) (by omega) (by unfold flgF; rw [p0]; (repeat' split) <;> omega) p0.symm (by omega)
        · have sx49 : (1 : Int) ≤ v17 := by omega
          refine jr.sipush rfl (by decide) ?_
          refine jr.goto rfl rfl ?_
          refine jr.iadd rfl ?_
          refine jr.istore rfl (by decide) rfl ?_
          refine jr.pick [3, 4, 0, 1, 2] rfl rfl ?_
          exact c_Flow_layRow_x_L62 k_t q 0 M (((16 + 0) + 64) + 128) hC_M ht_M (by omega) (by omega) (by omega) (by unfold flgF; rw [p0]; (repeat' split) <;> omega) p0.symm (by omega)
    · have sx19 : (1 : Int) ≤ v13 := by omega
      refine jr.bipush rfl (by decide) ?_
      refine jr.goto rfl rfl ?_
      refine jr.iadd rfl ?_
      refine jr.aload_n rfl rfl ?_
      have k18 := kf_1_8 k_t
      refine jr.getf (i := 8) (v := .ref (t + 4)) rfl rfl (Nat.lt_trans (kx_1 k_t).1 (by decide)) (kx_1 k_t).2 (by decide) rfl rfl rfl (jval_ref rfl k18.1) ?_
      refine jr.iconst rfl ?_
      obtain ⟨v19, e19⟩ : ∃ z_, M ((t + 4)) 1 = z_ := ⟨_, rfl⟩
      have b19 : 0 ≤ v19 ∧ v19 ≤ 1 := by rw [← e19]; exact (CI.r hC_M k18.2 (by decide) 1)
      refine jr.zald (i := 1) (x := v19) rfl (Nat.lt_trans (kx_4 k18.2).1 (by decide)) (kx_4 k18.2).2 (by decide) (by omega) (by omega) e19 ?_
      refine jr.if_eq rfl rfl (by omega) (fun h35 => ?_) (fun h35 => ?_)
      · refine jr.iconst rfl ?_
        refine jr.iadd rfl ?_
        refine jr.aload_n rfl rfl ?_
        obtain ⟨v20, e20⟩ : ∃ z_, M t 12 = z_ := ⟨_, rfl⟩
        have b20 : 0 ≤ v20 ∧ v20 ≤ 1 := by rw [← e20]; exact (CI.r hC_M k_t (by decide) 12)
        refine jr.getf (i := 12) (x := v20) (v := .int (Int32.ofInt (v20))) rfl rfl (Nat.lt_trans (kx_1 k_t).1 (by decide)) (kx_1 k_t).2 (by decide) rfl rfl e20 rfl ?_
        refine jr.if_eq rfl rfl (by omega) (fun h49 => ?_) (fun h49 => ?_)
        · refine jr.iconst rfl ?_
          refine jr.iadd rfl ?_
          refine jr.istore rfl (by decide) rfl ?_
          refine jr.pick [3, 4, 0, 1, 2] rfl rfl ?_
          exact c_Flow_layRow_x_L62 k_t q 0 M (((16 + 32) + 0) + 0) hC_M ht_M (by omega) (by omega) (by omega) (by unfold flgF; rw [p0]; (repeat' split) <;> omega) p0.symm (by omega)
        · have sx49 : (1 : Int) ≤ v20 := by omega
          refine jr.sipush rfl (by decide) ?_
          refine jr.goto rfl rfl ?_
          refine jr.iadd rfl ?_
          refine jr.istore rfl (by decide) rfl ?_
          refine jr.pick [3, 4, 0, 1, 2] rfl rfl ?_
          exact c_Flow_layRow_x_L62 k_t q 0 M (((16 + 32) + 0) + 128) hC_M ht_M (by omega) (by omega) (by omega) (by unfold flgF; rw [p0]; (repeat' split) <;> omega) p0.symm (by omega)
      · have sx35 : (1 : Int) ≤ v19 := by omega
        refine jr.bipush rfl (by decide) ?_
        refine jr.goto rfl rfl ?_
        refine jr.iadd rfl ?_
        refine jr.aload_n rfl rfl ?_
        obtain ⟨v21, e21⟩ : ∃ z_, M t 12 = z_ := ⟨_, rfl⟩
        have b21 : 0 ≤ v21 ∧ v21 ≤ 1 := by rw [← e21]; exact (CI.r hC_M k_t (by decide) 12)
        refine jr.getf (i := 12) (x := v21) (v := .int (Int32.ofInt (v21))) rfl rfl (Nat.lt_trans (kx_1 k_t).1 (by decide)) (kx_1 k_t).2 (by decide) rfl rfl e21 rfl ?_
        refine jr.if_eq rfl rfl (by omega) (fun h49 => ?_) (fun h49 => ?_)
        · refine jr.iconst rfl ?_
          refine jr.iadd rfl ?_
          refine jr.istore rfl (by decide) rfl ?_
          refine jr.pick [3, 4, 0, 1, 2] rfl rfl ?_
          exact c_Flow_layRow_x_L62 k_t q 0 M (((16 + 32) + 64) + 0) hC_M ht_M (by omega) (by omega) (by omega) (by unfold flgF; rw [p0]; (repeat' split) <;> omega) p0.symm (by omega)
        · have sx49 : (1 : Int) ≤ v21 := by omega
          refine jr.sipush rfl (by decide) ?_
          refine jr.goto rfl rfl ?_
          refine jr.iadd rfl ?_
          refine jr.istore rfl (by decide) rfl ?_
          refine jr.pick [3, 4, 0, 1, 2] rfl rfl ?_
          exact c_Flow_layRow_x_L62 k_t q 0 M (((16 + 32) + 64) + 128) hC_M ht_M (by omega) (by omega) (by omega) (by unfold flgF; rw [p0]; (repeat' split) <;> omega) p0.symm (by omega)
noncomputable def uC (T : jm) (V : Nat) (i : Int) : Int := if T (xe V i) 0 ≠ 0 ∧ T (xe V i) 13 = -1 then 1 else 0
noncomputable def bC (T : jm) (V : Nat) (Z i : Int) : Int → Int := rcB T (xe V i) Z
theorem uC_0 {T : jm} {V : Nat} {i : Int} (h : ¬ (T (xe V i) 0 ≠ 0 ∧ T (xe V i) 13 = -1)) : uC T V i = 0 := if_neg h
theorem uC_1 {T : jm} {V : Nat} {i : Int} (h : T (xe V i) 0 ≠ 0 ∧ T (xe V i) 13 = -1) : uC T V i = 1 := if_pos h
noncomputable def W_c_Flows_layTable_x : List (Nat × Nat) := [(43, 1000)]
theorem c_Flows_layTable_x_L5 {A : Nat → Option (Nat × (Nat → Int32))} {Q : Option Value → jm → Prop} {T : jm} {V : Int} {y : Int} (q : ∀ (r : Int) (M' : jm), CI M' → FR W_c_Flows_layTable_x T M' → 0 ≤ r ∧ r ≤ 1152 → ((M' 1 = (exL (uC T V.toNat) (bC T V.toNat y) (T 1) 24).1 ∧ r = (exL (uC T V.toNat) (bC T V.toNat y) (T 1) 24).2) ∧ ∀ (b : Nat) (k : Int), b ≠ 1 → M' b k = T b k) → Q (some (.int (Int32.ofInt r))) M') : ∀ (nM : Nat) (M : jm) (n : Int) (i : Int), CI M → FR W_c_Flows_layTable_x T M → 0 ≤ y ∧ y ≤ 2000000000 → 0 ≤ n ∧ n ≤ 1152 → 0 ≤ i ∧ i ≤ 24 → M 15 0 = V → (M 1 = (exL (uC T V.toNat) (bC T V.toNat y) (T 1) i.toNat).1 ∧ n = (exL (uC T V.toNat) (bC T V.toNat y) (T 1) i.toNat).2) → (∀ (b : Nat) (k : Int), b ≠ 1 → M b k = T b k) → (n ≤ 48 * i) → 24 - i ≤ nM → jr A 3 xm_83 5 [(2, .int (Int32.ofInt (y))), (3, .int (Int32.ofInt (n))), (4, .int (Int32.ofInt (i))), (0, .ref (15)), (1, .ref (1))] [] M Q := by
  intro nM
  induction nM using Nat.strongRecOn with
  | ind nM ih =>
    intro M n i hC_M ht_M h_y h_n h_i g_V hy0 hy1 hy2 hm
    have b_V : 16 ≤ V ∧ V ≤ 17 := by rw [← g_V]; exact (CI.r hC_M (show kd 15 = 9 from rfl) (by decide) 0)
    refine jr.iload rfl rfl ?_
    refine jr.bipush rfl (by decide) ?_
    refine jr.icmp_ge rfl rfl (by omega) (by omega) (fun h9 => ?_) (fun h9 => ?_)
    · refine jr.iload_n rfl rfl ?_
      exact jr.ireturn rfl rfl rfl (q _ _ hC_M ht_M (by omega) ⟨by have h9 := hy0; rw [show i = 24 from by omega] at h9; exact h9, hy1⟩)
    · refine jr.aload_n rfl rfl ?_
      have k1 : kd (V).toNat = 13 := by rcases (show V = 16 ∨ V = 17 by omega) with h | h <;> (rw [h]; rfl)
      refine jr.getf (i := 0) (x := V) (v := .ref (V.toNat)) rfl rfl (by decide) rfl (by decide) rfl rfl g_V rfl ?_
      refine jr.iload rfl rfl ?_
      have k2 := kxe_13 k1 (i := i) (by omega) (by omega)
      refine jr.aald (c := (xe ((V.toNat)) i)) rfl (Nat.lt_trans (kx_13 k1).1 (by decide)) (kx_13 k1).2 (by decide) (by decide) rfl (by decide) (by omega) (by omega) k2.1 ?_
      obtain ⟨v3, e3⟩ : ∃ z_, M ((xe ((V.toNat)) i)) 0 = z_ := ⟨_, rfl⟩
      have b3 : 0 ≤ v3 ∧ v3 ≤ 1 := by rw [← e3]; exact (CI.r hC_M k2.2 (by decide) 0)
      refine jr.getf (i := 0) (x := v3) (v := .int (Int32.ofInt (v3))) rfl rfl (Nat.lt_trans (kx_1 k2.2).1 (by decide)) (kx_1 k2.2).2 (by decide) rfl rfl e3 rfl ?_
      refine jr.if_eq rfl rfl (by omega) (fun h22 => ?_) (fun h22 => ?_)
      · refine jr.iinc rfl rfl (by decide) rfl ?_
        refine jr.goto rfl rfl ?_
        refine jr.pick [1, 2, 0, 3, 4] rfl rfl ?_
        exact ih (nM - 1) (by omega) M n (i + 1) hC_M ht_M (by omega) (by omega) (by omega) g_V (by rw [exL_s (by omega), if_pos (uC_0 (fun u => by rw [← hy1 _ 0 (kd_ne (by rw [k2.2]; decide)), e3] at u; omega))]; exact hy0) hy1 (by omega) (by omega)
      · have sx22 : (1 : Int) ≤ v3 := by omega
        refine jr.aload_n rfl rfl ?_
        have k4 : kd (V).toNat = 13 := by rcases (show V = 16 ∨ V = 17 by omega) with h | h <;> (rw [h]; rfl)
        refine jr.getf (i := 0) (x := V) (v := .ref (V.toNat)) rfl rfl (by decide) rfl (by decide) rfl rfl g_V rfl ?_
        refine jr.iload rfl rfl ?_
        have k5 := kxe_13 k4 (i := i) (by omega) (by omega)
        refine jr.aald (c := (xe ((V.toNat)) i)) rfl (Nat.lt_trans (kx_13 k4).1 (by decide)) (kx_13 k4).2 (by decide) (by decide) rfl (by decide) (by omega) (by omega) k5.1 ?_
        obtain ⟨v6, e6⟩ : ∃ z_, M ((xe ((V.toNat)) i)) 13 = z_ := ⟨_, rfl⟩
        have b6 : (-2147483648) ≤ v6 ∧ v6 ≤ 2147483647 := by rw [← e6]; exact (CI.r hC_M k5.2 (by decide) 13)
        refine jr.getf (i := 13) (x := v6) (v := .int (Int32.ofInt (v6))) rfl rfl (Nat.lt_trans (kx_1 k5.2).1 (by decide)) (kx_1 k5.2).2 (by decide) rfl rfl e6 rfl ?_
        refine jr.iconst rfl ?_
        refine jr.icmp_ne rfl rfl (by omega) (by omega) (fun h36 => ?_) (fun h36 => ?_)
        · refine jr.iinc rfl rfl (by decide) rfl ?_
          refine jr.goto rfl rfl ?_
          refine jr.pick [1, 2, 0, 3, 4] rfl rfl ?_
          exact ih (nM - 1) (by omega) M n (i + 1) hC_M ht_M (by omega) (by omega) (by omega) g_V (by rw [exL_s (by omega), if_pos (uC_0 (fun u => by rw [← hy1 _ 0 (kd_ne (by rw [k5.2]; decide)), ← hy1 _ 13 (kd_ne (by rw [k5.2]; decide)), e3, e6] at u; omega))]; exact hy0) hy1 (by omega) (by omega)
        · refine jr.aload_n rfl rfl ?_
          have k7 : kd (V).toNat = 13 := by rcases (show V = 16 ∨ V = 17 by omega) with h | h <;> (rw [h]; rfl)
          refine jr.getf (i := 0) (x := V) (v := .ref (V.toNat)) rfl rfl (by decide) rfl (by decide) rfl rfl g_V rfl ?_
          refine jr.iload rfl rfl ?_
          have k8 := kxe_13 k7 (i := i) (by omega) (by omega)
          refine jr.aald (c := (xe ((V.toNat)) i)) rfl (Nat.lt_trans (kx_13 k7).1 (by decide)) (kx_13 k7).2 (by decide) (by decide) rfl (by decide) (by omega) (by omega) k8.1 ?_
          refine jr.aload_n rfl rfl ?_
          refine jr.iload_n rfl rfl ?_
          refine jr.iload_n rfl rfl ?_
          refine jr_v rfl rfl (Or.inl rfl) rfl rfl (Nat.lt_trans (kx_1 k8.2).1 (by decide)) (kx_1 k8.2).2 ⟨rfl, Nat.le_of_ble_eq_true rfl, Nat.le_of_ble_eq_true rfl⟩ rfl (jc.deep (c_Flow_layRow_x hC_M (FR.rfl _ M) k8.2 (by omega) (by omega) rfl (fun M9 hC_M9 hf_M9 w9_0 => ?_)) (by decide))
          have ht_M9 : FR W_c_Flows_layTable_x T M9 := FR.t ht_M hf_M9 (kw_sub rfl)
          refine jr.iinc rfl rfl (by decide) rfl ?_
          refine jr.iinc rfl rfl (by decide) rfl ?_
          refine jr.goto rfl rfl ?_
          have e10 : M9 15 0 = V := (hf_M9.g (show kd 15 = 9 from rfl) rfl).trans g_V
          refine jr.pick [2, 1, 0, 3, 4] rfl rfl ?_
          exact ih (nM - 1) (by omega) M9 (n + 48) (i + 1) hC_M9 ht_M9 (by omega) (by omega) (by omega) e10 (by rw [exL_s (by omega), if_neg (by rw [uC_1 ⟨by rw [← hy1 _ 0 (kd_ne (by rw [k8.2]; decide)), e3]; omega, by rw [← hy1 _ 13 (kd_ne (by rw [k8.2]; decide)), e6]; omega⟩]; decide)]; exact ⟨by rw [w9_0.1, rcB_e hy1 (by have q := xfl (V := V) (i := i) (by omega) (by omega); omega), hy0.1, hy0.2]; rfl, by rw [hy0.2]⟩) (fun b k hb => (w9_0.2 b k hb).trans (hy1 b k hb)) (by omega) (by omega)
theorem c_Flows_layTable_x {A : Nat → Option (Nat × (Nat → Int32))} {Q : Option Value → jm → Prop} {T : jm} {M : jm} (hC_M : CI M) (ht_M : FR W_c_Flows_layTable_x T M) {y : Int} (h_y : 0 ≤ y ∧ y ≤ 2000000000) {V : Int} (g_V : M 15 0 = V) (p0 : T = M) (q : ∀ (r : Int) (M' : jm), CI M' → FR W_c_Flows_layTable_x T M' → 0 ≤ r ∧ r ≤ 1152 → ((M' 1 = (exL (uC T V.toNat) (bC T V.toNat y) (T 1) 24).1 ∧ r = (exL (uC T V.toNat) (bC T V.toNat y) (T 1) 24).2) ∧ ∀ (b : Nat) (k : Int), b ≠ 1 → M' b k = T b k) → Q (some (.int (Int32.ofInt r))) M') : jc A 4 83 [.ref (15), .ref (1), .int (Int32.ofInt (y))] M Q := by
  refine jc_of (m := xm_83) rfl (Nat.le_of_ble_eq_true rfl) rfl ?_
  have b_V : 16 ≤ V ∧ V ≤ 17 := by rw [← g_V]; exact (CI.r hC_M (show kd 15 = 9 from rfl) (by decide) 0)
  refine jr.iconst rfl ?_
  refine jr.istore_n rfl (by decide) rfl ?_
  refine jr.iconst rfl ?_
  refine jr.istore rfl (by decide) rfl ?_
  refine jr.pick [4, 1, 0, 2, 3] rfl rfl ?_
  exact c_Flows_layTable_x_L5  q 24 M 0 0 hC_M ht_M (by omega) (by omega) (by omega) g_V ⟨by rw [p0]; rfl, rfl⟩ (fun b k _ => by rw [p0]) (by omega) (by omega)
noncomputable def W_c_PacketWall_export_x : List (Nat × Nat) := [(35, 1), (43, 1000)]
theorem c_PacketWall_export_x {A : Nat → Option (Nat × (Nat → Int32))} {Q : Option Value → jm → Prop} {T : jm} {M : jm} (hC_M : CI M) (ht_M : FR W_c_PacketWall_export_x T M) {Z : Int} (g_Z : M 0 8 = Z) {V : Int} (g_V : M 15 0 = V) (p0 : T = M) (p1 : 0 ≤ Z ∧ Z ≤ 2000000000) (q : ∀ (r : Int) (M' : jm), CI M' → FR W_c_PacketWall_export_x T M' → 0 ≤ r ∧ r ≤ 1152 → ((M' 1 = (exL (uC T V.toNat) (bC T V.toNat Z) (T 1) 24).1 ∧ r = (exL (uC T V.toNat) (bC T V.toNat Z) (T 1) 24).2) ∧ M' 0 1 = r ∧ (∀ k : Int, k ≠ 1 → M' 0 k = T 0 k) ∧ ∀ (b : Nat) (k : Int), b ≠ 0 → b ≠ 1 → M' b k = T b k) → Q (some (.int (Int32.ofInt r))) M') : jc A 5 37 [.ref (0)] M Q := by
  refine jc_of (m := xm_37) rfl (Nat.le_of_ble_eq_true rfl) rfl ?_
  have b_Z : (-2147483648) ≤ Z ∧ Z ≤ 2147483647 := by rw [← g_Z]; exact (CI.r hC_M (show kd 0 = 35 from rfl) (by decide) 8)
  have b_V : 16 ≤ V ∧ V ≤ 17 := by rw [← g_V]; exact (CI.r hC_M (show kd 15 = 9 from rfl) (by decide) 0)
  refine jr.aload_n rfl rfl ?_
  refine jr.aload_n rfl rfl ?_
  refine jr.getf (i := 9) (v := .ref 15) rfl rfl (by decide) rfl (by decide) rfl rfl rfl rfl ?_
  refine jr.aload_n rfl rfl ?_
  refine jr.getf (i := 0) (v := .ref 1) rfl rfl (by decide) rfl (by decide) rfl rfl rfl rfl ?_
  refine jr.aload_n rfl rfl ?_
  refine jr.getf (i := 8) (x := Z) (v := .int (Int32.ofInt (Z))) rfl rfl (by decide) rfl (by decide) rfl rfl g_Z rfl ?_
  refine jr_v rfl rfl (Or.inl rfl) rfl rfl (by decide) rfl ⟨rfl, Nat.le_of_ble_eq_true rfl, Nat.le_of_ble_eq_true rfl⟩ rfl (jc.deep (c_Flows_layTable_x hC_M (FR.rfl _ M) (by omega) g_V rfl (fun r1 M1 hC_M1 hf_M1 z1 w1_0 => ?_)) (by decide))
  have ht_M1 : FR W_c_PacketWall_export_x T M1 := FR.t ht_M hf_M1 (kw_sub rfl)
  refine jr.putf (i := 1) (x := r1) rfl rfl (by decide) rfl (by decide) rfl rfl rfl rfl rfl ?_
  refine jr.aload_n rfl rfl ?_
  refine jr.getf (i := 1) (x := r1) (v := .int (Int32.ofInt (r1))) rfl rfl (by decide) rfl (by decide) rfl rfl (ju_same _ _ _ _) rfl ?_
  exact jr.ireturn rfl rfl rfl (q _ _ (CI.u hC_M1 (i := 1) (show kd 0 = 35 from rfl) (show (0 : Int) ≤ _ ∧ _ ≤ (1600 : Int) from by omega) rfl) (FR.o ht_M1 (show kd 0 = 35 from rfl) rfl) (by omega) (by rw [p0]; exact ⟨⟨by rw [ju1_row (by decide)]; exact w1_0.1.1, w1_0.1.2⟩, ju_same _ _ _ _, fun k hk => by rw [ju_i _ _ hk]; exact w1_0.2 0 k (by decide), fun b k h0 h1 => by rw [ju_c _ _ h0]; exact w1_0.2 b k h1⟩))
end
