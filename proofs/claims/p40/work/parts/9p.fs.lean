section
/-! ===== the class: a flow takes a packet in ===== -/
theorem st_v {f : Int → Int} {N C y : Int} (h : kA f N C y = 8) : (0 ≤ vA f N C y 5 ∧ vA f N C y 5 ≤ 255) ∧ (0 ≤ vA f N C y 2 ∧ vA f N C y 2 ≤ 4294967295) ∧ (0 ≤ vA f N C y 6 ∧ vA f N C y 6 ≤ 65535) := by
  have hi := kA_in (f := f) (N := N) (C := C) (x := y) (by omega)
  rw [kA_i hi] at h
  rw [vA_k (j := 5) hi h (by decide +kernel), vof_8_5, vA_k (j := 2) hi h (by decide +kernel), vof_8_2, vA_k (j := 6) hi h (by decide +kernel), vof_8_6]
  omega
/-- sort of a packet of a stream, its sequence, its span -/
noncomputable def tsS (f : Int → Int) (N C y : Int) : Int := scf (vA f N C y 5)
noncomputable def tsQ (f : Int → Int) (N C y : Int) : Int := j_w (vA f N C y 2)
noncomputable def tsN (f : Int → Int) (N C y : Int) : Int := N - enf f N C y + vA f N C y 5 / 2 % 2 + vA f N C y 5 % 2
noncomputable def tsB (s c z : Int) : Int := if c < 5 ∧ 1 ≤ s ∧ s ≤ 10 then xcv_5 (10 * (s - 1) + 5 * z + c) else 0
noncomputable def tsM (M : jm) (t : Nat) (z b e w : Int) : jm := ju (if M (t + 4) z = 0 ∨ 0 < j_w (e - M (t + 3) z) then ju (ju (ju M t 5 b) (t + 3) z e) (t + 4) z 1 else ju M t 5 b) (t + 5) z w
theorem tsM_p {M : jm} {t : Nat} {z b e w : Int} (h : M (t + 4) z = 0 ∨ 0 < j_w (e - M (t + 3) z)) : tsM M t z b e w = ju (ju (ju (ju M t 5 b) (t + 3) z e) (t + 4) z 1) (t + 5) z w := by
  unfold tsM
  rw [if_pos h]
theorem tsM_n {M : jm} {t : Nat} {z b e w : Int} (h : ¬ (M (t + 4) z = 0 ∨ 0 < j_w (e - M (t + 3) z))) : tsM M t z b e w = ju (ju M t 5 b) (t + 5) z w := by
  unfold tsM
  rw [if_neg h]
noncomputable def TSQ (T M : jm) (t : Nat) (f : Int → Int) (N C y z r : Int) : Prop := (tsB (T t 5) (tsS f N C y) z = 0 ∧ r = -7 ∧ M = T) ∨ (tsB (T t 5) (tsS f N C y) z ≠ 0 ∧ ((tsS f N C y = 2 ∨ tsS f N C y = 4) ∧ ioF T t z (tsQ f N C y) (tsN f N C y) = 1) ∧ r = -8 ∧ M = T) ∨ (tsB (T t 5) (tsS f N C y) z ≠ 0 ∧ ¬ ((tsS f N C y = 2 ∨ tsS f N C y = 4) ∧ ioF T t z (tsQ f N C y) (tsN f N C y) = 1) ∧ r = 0 ∧ ∃ B : jm, (((tsS f N C y = 0 ∧ 9 ≤ T t 5) ∧ FGT T B t) ∨ (¬ (tsS f N C y = 0 ∧ 9 ≤ T t 5) ∧ B = T)) ∧ M = tsM B t z (tsB (T t 5) (tsS f N C y) z) (j_w (tsQ f N C y + tsN f N C y)) (vA f N C y 6))
noncomputable def W_c_Flow_takeStream_x : List (Nat × Nat) := [(1, 5), (1, 12), (3, 1000), (4, 1000), (5, 1000), (6, 1000), (8, 1000)]
theorem c_Flow_takeStream_x_L115 {A : Nat → Option (Nat × (Nat → Int32))} {Q : Option Value → jm → Prop} {f : Int → Int} {N : Int} {T : jm} {t : Nat} (k_t : kd t = 1) {C : Int} {y : Int} {z : Int} (q : ∀ (r : Int) (M' : jm), CI M' → FR W_c_Flow_takeStream_x T M' → (-8) ≤ r ∧ r ≤ 0 → (TSQ T M' t f N C y z r) → Q (some (.int (Int32.ofInt r))) M') : ∀ (nM : Nat) (M : jm) (a_ : Int) (c_ : Int) (b_ : Int) (q_ : Int) (n_ : Int), CI M → FR W_c_Flow_takeStream_x T M → 0 ≤ y ∧ y ≤ 11 → 0 ≤ z ∧ z ≤ 1 → 0 ≤ a_ ∧ a_ ≤ 255 → 0 ≤ c_ ∧ c_ ≤ 5 → 1 ≤ b_ ∧ b_ ≤ 10 → (-2147483648) ≤ q_ ∧ q_ ≤ 2147483647 → (-2449) ≤ n_ ∧ n_ ≤ 802 → M 3 3 = C → (HS M 3 f N) → (tsS f N C y = c_ ∧ tsB (T t 5) c_ z = b_ ∧ tsQ f N C y = q_ ∧ tsN f N C y = n_) → (M = T) → (kA f N C y = 8) → 0 ≤ nM → jr A 3 xm_71 115 [(2, .int (Int32.ofInt (y))), (3, .int (Int32.ofInt (z))), (4, .int (Int32.ofInt (a_))), (5, .int (Int32.ofInt (c_))), (6, .int (Int32.ofInt (b_))), (7, .int (Int32.ofInt (q_))), (8, .int (Int32.ofInt (n_))), (0, .ref (t)), (1, .ref (3))] [] M Q := by
  intro nM
  induction nM using Nat.strongRecOn with
  | ind nM ih =>
    intro M a_ c_ b_ q_ n_ hC_M ht_M h_y h_z h_a_ h_c_ h_b_ h_q_ h_n_ g_C hy0 hy1 hy2 hy3 hm
    have b_C : 0 ≤ C ∧ C ≤ 12 := by rw [← g_C]; exact (CI.r hC_M (show kd 3 = 18 from rfl) (by decide) 3)
    refine jr.iload rfl rfl ?_
    refine jr.iconst rfl ?_
    refine jr.icmp_eq rfl rfl (by first | (refine rgb (by assumption) ?_; exact rfl) | omega) (rgl rfl) (fun h118 => ?_) (fun h118 => ?_)
    · refine jr.aload_n rfl rfl ?_
      refine jr.iload_n rfl rfl ?_
      refine jr.iload rfl rfl ?_
      refine jr.iload rfl rfl ?_
      refine jr_v rfl rfl (Or.inl rfl) rfl rfl (Nat.lt_trans (kx_1 k_t).1 (by decide)) (kx_1 k_t).2 ⟨rfl, Nat.le_of_ble_eq_true rfl, Nat.le_of_ble_eq_true rfl⟩ rfl (jc.deep (c_Flow_isOut_x hC_M k_t (by omega) (by omega) (by omega) (fun r1 z1 w1_0 => ?_)) (Nat.le_of_ble_eq_true rfl))
      skip
      refine jr.if_eq rfl rfl (by first | (refine rgb (by assumption) ?_; exact rfl) | omega) (fun h136 => ?_) (fun h136 => ?_)
      · refine jr.iload rfl rfl ?_
        refine jr.if_ne rfl rfl (by first | (refine rgb (by assumption) ?_; exact rfl) | omega) (fun h144 => ?_) (fun h144 => ?_)
        · refine jr.aload_n rfl rfl ?_
          refine jr.iload rfl rfl ?_
          refine jr.putf (i := 5) (x := b_) rfl rfl (Nat.lt_trans (kx_1 k_t).1 (by decide)) (kx_1 k_t).2 (by decide) rfl rfl rfl rfl rfl ?_
          refine jr.aload_n rfl rfl ?_
          have k2 := kf_1_8 k_t
          refine jr.getf (i := 8) (v := .ref (t + 4)) rfl rfl (Nat.lt_trans (kx_1 k_t).1 (by decide)) (kx_1 k_t).2 (by decide) rfl rfl rfl (jval_ref rfl k2.1) ?_
          refine jr.iload_n rfl rfl ?_
          obtain ⟨v3, e3⟩ : ∃ z_, M ((t + 4)) z = z_ := ⟨_, rfl⟩
          have b3 : 0 ≤ v3 ∧ v3 ≤ 1 := by rw [← e3]; exact (CI.r hC_M k2.2 (by decide) z)
          refine jr.zald (i := z) (x := v3) rfl (Nat.lt_trans (kx_4 k2.2).1 (by decide)) (kx_4 k2.2).2 (by decide) (by omega) (by omega) ((ju_c _ _ (kd_ne (by rw [k2.2, k_t]; decide))).trans e3) ?_
          refine jr.if_eq rfl rfl (by first | (refine rgb (by assumption) ?_; exact rfl) | omega) (fun h172 => ?_) (fun h172 => ?_)
          · refine jr.aload_n rfl rfl ?_
            have k4 := kf_1_7 k_t
            refine jr.getf (i := 7) (v := .ref (t + 3)) rfl rfl (Nat.lt_trans (kx_1 k_t).1 (by decide)) (kx_1 k_t).2 (by decide) rfl rfl rfl (jval_ref rfl k4.1) ?_
            refine jr.iload_n rfl rfl ?_
            refine jr.iload rfl rfl ?_
            refine jr.iload rfl rfl ?_
            refine jr.iadd rfl ?_
            refine jr.iw (j_w (q_ + n_)) (j_w_eq _) ?_
            have b5 : -2147483648 ≤ j_w (q_ + n_) ∧ j_w (q_ + n_) ≤ 2147483647 := jb_any _
            refine jr.iast (i := z) (x := (j_w (q_ + n_))) rfl (Nat.lt_trans (kx_5 k4.2).1 (by decide)) (kx_5 k4.2).2 (by decide) (by omega) (by omega) ?_
            refine jr.aload_n rfl rfl ?_
            have k6 := kf_1_8 k_t
            refine jr.getf (i := 8) (v := .ref (t + 4)) rfl rfl (Nat.lt_trans (kx_1 k_t).1 (by decide)) (kx_1 k_t).2 (by decide) rfl rfl rfl (jval_ref rfl k6.1) ?_
            refine jr.iload_n rfl rfl ?_
            refine jr.iconst rfl ?_
            refine jr.zast (i := z) (x := 1) rfl (Nat.lt_trans (kx_4 k6.2).1 (by decide)) (kx_4 k6.2).2 (by decide) (by omega) (by omega) (j_zn (by omega)) ?_
            refine jr.aload_n rfl rfl ?_
            have k7 := kf_1_9 k_t
            refine jr.getf (i := 9) (v := .ref (t + 5)) rfl rfl (Nat.lt_trans (kx_1 k_t).1 (by decide)) (kx_1 k_t).2 (by decide) rfl rfl rfl (jval_ref rfl k7.1) ?_
            refine jr.iload_n rfl rfl ?_
            refine jr.aload_n rfl rfl ?_
            refine jr.iload_n rfl rfl ?_
            refine jr.bipush rfl (jbp _ (nlt rfl)) ?_
            refine jr_v rfl rfl (Or.inl rfl) rfl rfl (nlt rfl) rfl ⟨rfl, Nat.le_of_ble_eq_true rfl, Nat.le_of_ble_eq_true rfl⟩ rfl (jc.deep (c_Headers_valueOf_x (CI.u (CI.u (CI.u hC_M (i := 5) k_t (show (-2147483648 : Int) ≤ _ ∧ _ ≤ (2147483647 : Int) from by omega) rfl) (i := z) k4.2 (show (-2147483648 : Int) ≤ _ ∧ _ ≤ (2147483647 : Int) from by omega) rfl) (i := z) k6.2 (show (0 : Int) ≤ _ ∧ _ ≤ (1 : Int) from by omega) rfl) (show kd 3 = 18 from rfl) (by omega) (by omega) ((ju_c _ _ (kd_ne (by rw [(show kd 3 = 18 from rfl), k6.2]; decide))).trans ((ju_c _ _ (kd_ne (by rw [(show kd 3 = 18 from rfl), k4.2]; decide))).trans ((ju_i _ _ (zne (by decide))).trans g_C))) (HS.fr hy0 (show kd 3 = 18 from rfl) hC_M (FR.o (FR.o (FR.o (FR.rfl [(1, 5), (4, 1000), (5, 1000)] M) k_t rfl) k4.2 rfl) k6.2 rfl) rfl) (fun r8 z8 w8_0 => ?_)) (Nat.le_of_ble_eq_true rfl))
            have hv8 : 0 ≤ r8 ∧ r8 ≤ 65535 := (by have h9 := (st_v hy3).2.2; rw [← w8_0] at h9; exact h9)
            refine jr.l2i rfl ?_
            refine jr.iast (i := z) (x := r8) rfl (Nat.lt_trans (kx_8 k7.2).1 (by decide)) (kx_8 k7.2).2 (by decide) (by omega) (by omega) ?_
            refine jr.iconst rfl ?_
            exact jr.ireturn rfl rfl rfl (q _ _ (CI.u (CI.u (CI.u (CI.u hC_M (i := 5) k_t (show (-2147483648 : Int) ≤ _ ∧ _ ≤ (2147483647 : Int) from by omega) rfl) (i := z) k4.2 (show (-2147483648 : Int) ≤ _ ∧ _ ≤ (2147483647 : Int) from by omega) rfl) (i := z) k6.2 (show (0 : Int) ≤ _ ∧ _ ≤ (1 : Int) from by omega) rfl) (i := z) k7.2 (show (-2147483648 : Int) ≤ _ ∧ _ ≤ (2147483647 : Int) from by omega) rfl) (FR.o (FR.o (FR.o (FR.o ht_M k_t rfl) k4.2 rfl) k6.2 rfl) k7.2 rfl) (by omega) (by obtain ⟨hs, hb, hq, hn⟩ := hy1; have hT := hy2; have hio : ioF T t z (tsQ f N C y) (tsN f N C y) = r1 := (by rw [hq, hn, ← hT, ← w1_0]); exact Or.inr (Or.inr ⟨by rw [hs, hb]; omega, (fun u => by rw [hs, hio] at u; omega), rfl, M, Or.inr ⟨(fun u => by rw [hs, ← hT] at u; omega), hT⟩, by rw [hs, hb, hq, hn, ← w8_0]; rw [tsM_p (by rw [e3]; first | (left; omega) | (right; omega))]⟩)))
          · have sx172 : (1 : Int) ≤ v3 := by omega
            clear h172
            refine jr.iload rfl rfl ?_
            refine jr.iload rfl rfl ?_
            refine jr.iadd rfl ?_
            refine jr.iw (j_w (q_ + n_)) (j_w_eq _) ?_
            have b9 : -2147483648 ≤ j_w (q_ + n_) ∧ j_w (q_ + n_) ≤ 2147483647 := jb_any _
            refine jr.aload_n rfl rfl ?_
            have k10 := kf_1_7 k_t
            refine jr.getf (i := 7) (v := .ref (t + 3)) rfl rfl (Nat.lt_trans (kx_1 k_t).1 (by decide)) (kx_1 k_t).2 (by decide) rfl rfl rfl (jval_ref rfl k10.1) ?_
            refine jr.iload_n rfl rfl ?_
            obtain ⟨v11, e11⟩ : ∃ z_, M ((t + 3)) z = z_ := ⟨_, rfl⟩
            have b11 : (-2147483648) ≤ v11 ∧ v11 ≤ 2147483647 := by rw [← e11]; exact (CI.r hC_M k10.2 (by decide) z)
            refine jr.iald (i := z) (x := v11) rfl (Nat.lt_trans (kx_5 k10.2).1 (by decide)) (kx_5 k10.2).2 (by decide) (by omega) (by omega) ((ju_c _ _ (kd_ne (by rw [k10.2, k_t]; decide))).trans e11) ?_
            refine jr.isub rfl ?_
            refine jr.iw (j_w ((j_w (q_ + n_)) - v11)) (j_w_eq _) ?_
            have b12 : -2147483648 ≤ j_w ((j_w (q_ + n_)) - v11) ∧ j_w ((j_w (q_ + n_)) - v11) ≤ 2147483647 := jb_any _
            refine jr.if_le rfl rfl (by first | (refine rgb (by assumption) ?_; exact rfl) | omega) (fun h187 => ?_) (fun h187 => ?_)
            · refine jr.aload_n rfl rfl ?_
              have k13 := kf_1_9 k_t
              refine jr.getf (i := 9) (v := .ref (t + 5)) rfl rfl (Nat.lt_trans (kx_1 k_t).1 (by decide)) (kx_1 k_t).2 (by decide) rfl rfl rfl (jval_ref rfl k13.1) ?_
              refine jr.iload_n rfl rfl ?_
              refine jr.aload_n rfl rfl ?_
              refine jr.iload_n rfl rfl ?_
              refine jr.bipush rfl (jbp _ (nlt rfl)) ?_
              refine jr_v rfl rfl (Or.inl rfl) rfl rfl (nlt rfl) rfl ⟨rfl, Nat.le_of_ble_eq_true rfl, Nat.le_of_ble_eq_true rfl⟩ rfl (jc.deep (c_Headers_valueOf_x (CI.u hC_M (i := 5) k_t (show (-2147483648 : Int) ≤ _ ∧ _ ≤ (2147483647 : Int) from by omega) rfl) (show kd 3 = 18 from rfl) (by omega) (by omega) ((ju_i _ _ (zne (by decide))).trans g_C) (HS.fr hy0 (show kd 3 = 18 from rfl) hC_M (FR.o (FR.rfl [(1, 5)] M) k_t rfl) rfl) (fun r14 z14 w14_0 => ?_)) (Nat.le_of_ble_eq_true rfl))
              have hv14 : 0 ≤ r14 ∧ r14 ≤ 65535 := (by have h9 := (st_v hy3).2.2; rw [← w14_0] at h9; exact h9)
              refine jr.l2i rfl ?_
              refine jr.iast (i := z) (x := r14) rfl (Nat.lt_trans (kx_8 k13.2).1 (by decide)) (kx_8 k13.2).2 (by decide) (by omega) (by omega) ?_
              refine jr.iconst rfl ?_
              exact jr.ireturn rfl rfl rfl (q _ _ (CI.u (CI.u hC_M (i := 5) k_t (show (-2147483648 : Int) ≤ _ ∧ _ ≤ (2147483647 : Int) from by omega) rfl) (i := z) k13.2 (show (-2147483648 : Int) ≤ _ ∧ _ ≤ (2147483647 : Int) from by omega) rfl) (FR.o (FR.o ht_M k_t rfl) k13.2 rfl) (by omega) (by obtain ⟨hs, hb, hq, hn⟩ := hy1; have hT := hy2; have hio : ioF T t z (tsQ f N C y) (tsN f N C y) = r1 := (by rw [hq, hn, ← hT, ← w1_0]); exact Or.inr (Or.inr ⟨by rw [hs, hb]; omega, (fun u => by rw [hs, hio] at u; omega), rfl, M, Or.inr ⟨(fun u => by rw [hs, ← hT] at u; omega), hT⟩, by rw [hs, hb, hq, hn, ← w14_0]; rw [tsM_n (by rw [e3, e11]; omega)]⟩)))
            · refine jr.aload_n rfl rfl ?_
              have k15 := kf_1_7 k_t
              refine jr.getf (i := 7) (v := .ref (t + 3)) rfl rfl (Nat.lt_trans (kx_1 k_t).1 (by decide)) (kx_1 k_t).2 (by decide) rfl rfl rfl (jval_ref rfl k15.1) ?_
              refine jr.iload_n rfl rfl ?_
              refine jr.iload rfl rfl ?_
              refine jr.iload rfl rfl ?_
              refine jr.iadd rfl ?_
              refine jr.iw (j_w (q_ + n_)) (j_w_eq _) ?_
              have b16 : -2147483648 ≤ j_w (q_ + n_) ∧ j_w (q_ + n_) ≤ 2147483647 := jb_any _
              refine jr.iast (i := z) (x := (j_w (q_ + n_))) rfl (Nat.lt_trans (kx_5 k15.2).1 (by decide)) (kx_5 k15.2).2 (by decide) (by omega) (by omega) ?_
              refine jr.aload_n rfl rfl ?_
              have k17 := kf_1_8 k_t
              refine jr.getf (i := 8) (v := .ref (t + 4)) rfl rfl (Nat.lt_trans (kx_1 k_t).1 (by decide)) (kx_1 k_t).2 (by decide) rfl rfl rfl (jval_ref rfl k17.1) ?_
              refine jr.iload_n rfl rfl ?_
              refine jr.iconst rfl ?_
              refine jr.zast (i := z) (x := 1) rfl (Nat.lt_trans (kx_4 k17.2).1 (by decide)) (kx_4 k17.2).2 (by decide) (by omega) (by omega) (j_zn (by omega)) ?_
              refine jr.aload_n rfl rfl ?_
              have k18 := kf_1_9 k_t
              refine jr.getf (i := 9) (v := .ref (t + 5)) rfl rfl (Nat.lt_trans (kx_1 k_t).1 (by decide)) (kx_1 k_t).2 (by decide) rfl rfl rfl (jval_ref rfl k18.1) ?_
              refine jr.iload_n rfl rfl ?_
              refine jr.aload_n rfl rfl ?_
              refine jr.iload_n rfl rfl ?_
              refine jr.bipush rfl (jbp _ (nlt rfl)) ?_
              refine jr_v rfl rfl (Or.inl rfl) rfl rfl (nlt rfl) rfl ⟨rfl, Nat.le_of_ble_eq_true rfl, Nat.le_of_ble_eq_true rfl⟩ rfl (jc.deep (c_Headers_valueOf_x (CI.u (CI.u (CI.u hC_M (i := 5) k_t (show (-2147483648 : Int) ≤ _ ∧ _ ≤ (2147483647 : Int) from by omega) rfl) (i := z) k15.2 (show (-2147483648 : Int) ≤ _ ∧ _ ≤ (2147483647 : Int) from by omega) rfl) (i := z) k17.2 (show (0 : Int) ≤ _ ∧ _ ≤ (1 : Int) from by omega) rfl) (show kd 3 = 18 from rfl) (by omega) (by omega) ((ju_c _ _ (kd_ne (by rw [(show kd 3 = 18 from rfl), k17.2]; decide))).trans ((ju_c _ _ (kd_ne (by rw [(show kd 3 = 18 from rfl), k15.2]; decide))).trans ((ju_i _ _ (zne (by decide))).trans g_C))) (HS.fr hy0 (show kd 3 = 18 from rfl) hC_M (FR.o (FR.o (FR.o (FR.rfl [(1, 5), (4, 1000), (5, 1000)] M) k_t rfl) k15.2 rfl) k17.2 rfl) rfl) (fun r19 z19 w19_0 => ?_)) (Nat.le_of_ble_eq_true rfl))
              have hv19 : 0 ≤ r19 ∧ r19 ≤ 65535 := (by have h9 := (st_v hy3).2.2; rw [← w19_0] at h9; exact h9)
              refine jr.l2i rfl ?_
              refine jr.iast (i := z) (x := r19) rfl (Nat.lt_trans (kx_8 k18.2).1 (by decide)) (kx_8 k18.2).2 (by decide) (by omega) (by omega) ?_
              refine jr.iconst rfl ?_
              exact jr.ireturn rfl rfl rfl (q _ _ (CI.u (CI.u (CI.u (CI.u hC_M (i := 5) k_t (show (-2147483648 : Int) ≤ _ ∧ _ ≤ (2147483647 : Int) from by omega) rfl) (i := z) k15.2 (show (-2147483648 : Int) ≤ _ ∧ _ ≤ (2147483647 : Int) from by omega) rfl) (i := z) k17.2 (show (0 : Int) ≤ _ ∧ _ ≤ (1 : Int) from by omega) rfl) (i := z) k18.2 (show (-2147483648 : Int) ≤ _ ∧ _ ≤ (2147483647 : Int) from by omega) rfl) (FR.o (FR.o (FR.o (FR.o ht_M k_t rfl) k15.2 rfl) k17.2 rfl) k18.2 rfl) (by omega) (by obtain ⟨hs, hb, hq, hn⟩ := hy1; have hT := hy2; have hio : ioF T t z (tsQ f N C y) (tsN f N C y) = r1 := (by rw [hq, hn, ← hT, ← w1_0]); exact Or.inr (Or.inr ⟨by rw [hs, hb]; omega, (fun u => by rw [hs, hio] at u; omega), rfl, M, Or.inr ⟨(fun u => by rw [hs, ← hT] at u; omega), hT⟩, by rw [hs, hb, hq, hn, ← w19_0]; rw [tsM_p (by rw [e3, e11]; first | (left; omega) | (right; omega))]⟩)))
        · exact absurd (by omega) h144
      · have sx136 : (1 : Int) ≤ r1 := by omega
        clear h136
        refine jr.bipush rfl (by decide) ?_
        exact jr.ireturn rfl rfl rfl (q _ _ hC_M ht_M (by first | exact rgq rfl | omega) (by obtain ⟨hs, hb, hq, hn⟩ := hy1; have hT := hy2; have hio : ioF T t z (tsQ f N C y) (tsN f N C y) = r1 := (by rw [hq, hn, ← hT, ← w1_0]); exact Or.inr (Or.inl ⟨by rw [hs, hb]; omega, (by rw [hs, hio]; omega), rfl, hT⟩)))
    · refine jr.iload rfl rfl ?_
      refine jr.iconst rfl ?_
      refine jr.icmp_ne rfl rfl (by first | (refine rgb (by assumption) ?_; exact rfl) | omega) (rgl rfl) (fun h124 => ?_) (fun h124 => ?_)
      · refine jr.iload rfl rfl ?_
        refine jr.if_ne rfl rfl (by first | (refine rgb (by assumption) ?_; exact rfl) | omega) (fun h144 => ?_) (fun h144 => ?_)
        · have sx144 : (1 : Int) ≤ c_ := by omega
          clear h144
          refine jr.aload_n rfl rfl ?_
          refine jr.iload rfl rfl ?_
          refine jr.putf (i := 5) (x := b_) rfl rfl (Nat.lt_trans (kx_1 k_t).1 (by decide)) (kx_1 k_t).2 (by decide) rfl rfl rfl rfl rfl ?_
          refine jr.aload_n rfl rfl ?_
          have k20 := kf_1_8 k_t
          refine jr.getf (i := 8) (v := .ref (t + 4)) rfl rfl (Nat.lt_trans (kx_1 k_t).1 (by decide)) (kx_1 k_t).2 (by decide) rfl rfl rfl (jval_ref rfl k20.1) ?_
          refine jr.iload_n rfl rfl ?_
          obtain ⟨v21, e21⟩ : ∃ z_, M ((t + 4)) z = z_ := ⟨_, rfl⟩
          have b21 : 0 ≤ v21 ∧ v21 ≤ 1 := by rw [← e21]; exact (CI.r hC_M k20.2 (by decide) z)
          refine jr.zald (i := z) (x := v21) rfl (Nat.lt_trans (kx_4 k20.2).1 (by decide)) (kx_4 k20.2).2 (by decide) (by omega) (by omega) ((ju_c _ _ (kd_ne (by rw [k20.2, k_t]; decide))).trans e21) ?_
          refine jr.if_eq rfl rfl (by first | (refine rgb (by assumption) ?_; exact rfl) | omega) (fun h172 => ?_) (fun h172 => ?_)
          · refine jr.aload_n rfl rfl ?_
            have k22 := kf_1_7 k_t
            refine jr.getf (i := 7) (v := .ref (t + 3)) rfl rfl (Nat.lt_trans (kx_1 k_t).1 (by decide)) (kx_1 k_t).2 (by decide) rfl rfl rfl (jval_ref rfl k22.1) ?_
            refine jr.iload_n rfl rfl ?_
            refine jr.iload rfl rfl ?_
            refine jr.iload rfl rfl ?_
            refine jr.iadd rfl ?_
            refine jr.iw (j_w (q_ + n_)) (j_w_eq _) ?_
            have b23 : -2147483648 ≤ j_w (q_ + n_) ∧ j_w (q_ + n_) ≤ 2147483647 := jb_any _
            refine jr.iast (i := z) (x := (j_w (q_ + n_))) rfl (Nat.lt_trans (kx_5 k22.2).1 (by decide)) (kx_5 k22.2).2 (by decide) (by omega) (by omega) ?_
            refine jr.aload_n rfl rfl ?_
            have k24 := kf_1_8 k_t
            refine jr.getf (i := 8) (v := .ref (t + 4)) rfl rfl (Nat.lt_trans (kx_1 k_t).1 (by decide)) (kx_1 k_t).2 (by decide) rfl rfl rfl (jval_ref rfl k24.1) ?_
            refine jr.iload_n rfl rfl ?_
            refine jr.iconst rfl ?_
            refine jr.zast (i := z) (x := 1) rfl (Nat.lt_trans (kx_4 k24.2).1 (by decide)) (kx_4 k24.2).2 (by decide) (by omega) (by omega) (j_zn (by omega)) ?_
            refine jr.aload_n rfl rfl ?_
            have k25 := kf_1_9 k_t
            refine jr.getf (i := 9) (v := .ref (t + 5)) rfl rfl (Nat.lt_trans (kx_1 k_t).1 (by decide)) (kx_1 k_t).2 (by decide) rfl rfl rfl (jval_ref rfl k25.1) ?_
            refine jr.iload_n rfl rfl ?_
            refine jr.aload_n rfl rfl ?_
            refine jr.iload_n rfl rfl ?_
            refine jr.bipush rfl (jbp _ (nlt rfl)) ?_
            refine jr_v rfl rfl (Or.inl rfl) rfl rfl (nlt rfl) rfl ⟨rfl, Nat.le_of_ble_eq_true rfl, Nat.le_of_ble_eq_true rfl⟩ rfl (jc.deep (c_Headers_valueOf_x (CI.u (CI.u (CI.u hC_M (i := 5) k_t (show (-2147483648 : Int) ≤ _ ∧ _ ≤ (2147483647 : Int) from by omega) rfl) (i := z) k22.2 (show (-2147483648 : Int) ≤ _ ∧ _ ≤ (2147483647 : Int) from by omega) rfl) (i := z) k24.2 (show (0 : Int) ≤ _ ∧ _ ≤ (1 : Int) from by omega) rfl) (show kd 3 = 18 from rfl) (by omega) (by omega) ((ju_c _ _ (kd_ne (by rw [(show kd 3 = 18 from rfl), k24.2]; decide))).trans ((ju_c _ _ (kd_ne (by rw [(show kd 3 = 18 from rfl), k22.2]; decide))).trans ((ju_i _ _ (zne (by decide))).trans g_C))) (HS.fr hy0 (show kd 3 = 18 from rfl) hC_M (FR.o (FR.o (FR.o (FR.rfl [(1, 5), (4, 1000), (5, 1000)] M) k_t rfl) k22.2 rfl) k24.2 rfl) rfl) (fun r26 z26 w26_0 => ?_)) (Nat.le_of_ble_eq_true rfl))
            have hv26 : 0 ≤ r26 ∧ r26 ≤ 65535 := (by have h9 := (st_v hy3).2.2; rw [← w26_0] at h9; exact h9)
            refine jr.l2i rfl ?_
            refine jr.iast (i := z) (x := r26) rfl (Nat.lt_trans (kx_8 k25.2).1 (by decide)) (kx_8 k25.2).2 (by decide) (by omega) (by omega) ?_
            refine jr.iconst rfl ?_
            exact jr.ireturn rfl rfl rfl (q _ _ (CI.u (CI.u (CI.u (CI.u hC_M (i := 5) k_t (show (-2147483648 : Int) ≤ _ ∧ _ ≤ (2147483647 : Int) from by omega) rfl) (i := z) k22.2 (show (-2147483648 : Int) ≤ _ ∧ _ ≤ (2147483647 : Int) from by omega) rfl) (i := z) k24.2 (show (0 : Int) ≤ _ ∧ _ ≤ (1 : Int) from by omega) rfl) (i := z) k25.2 (show (-2147483648 : Int) ≤ _ ∧ _ ≤ (2147483647 : Int) from by omega) rfl) (FR.o (FR.o (FR.o (FR.o ht_M k_t rfl) k22.2 rfl) k24.2 rfl) k25.2 rfl) (by omega) (by obtain ⟨hs, hb, hq, hn⟩ := hy1; have hT := hy2; exact Or.inr (Or.inr ⟨by rw [hs, hb]; omega, (fun u => by rw [hs] at u; omega), rfl, M, Or.inr ⟨(fun u => by rw [hs, ← hT] at u; omega), hT⟩, by rw [hs, hb, hq, hn, ← w26_0]; rw [tsM_p (by rw [e21]; first | (left; omega) | (right; omega))]⟩)))
          · have sx172 : (1 : Int) ≤ v21 := by omega
            clear h172
            refine jr.iload rfl rfl ?_
            refine jr.iload rfl rfl ?_
            refine jr.iadd rfl ?_
            refine jr.iw (j_w (q_ + n_)) (j_w_eq _) ?_
            have b27 : -2147483648 ≤ j_w (q_ + n_) ∧ j_w (q_ + n_) ≤ 2147483647 := jb_any _
            refine jr.aload_n rfl rfl ?_
            have k28 := kf_1_7 k_t
            refine jr.getf (i := 7) (v := .ref (t + 3)) rfl rfl (Nat.lt_trans (kx_1 k_t).1 (by decide)) (kx_1 k_t).2 (by decide) rfl rfl rfl (jval_ref rfl k28.1) ?_
            refine jr.iload_n rfl rfl ?_
            obtain ⟨v29, e29⟩ : ∃ z_, M ((t + 3)) z = z_ := ⟨_, rfl⟩
            have b29 : (-2147483648) ≤ v29 ∧ v29 ≤ 2147483647 := by rw [← e29]; exact (CI.r hC_M k28.2 (by decide) z)
            refine jr.iald (i := z) (x := v29) rfl (Nat.lt_trans (kx_5 k28.2).1 (by decide)) (kx_5 k28.2).2 (by decide) (by omega) (by omega) ((ju_c _ _ (kd_ne (by rw [k28.2, k_t]; decide))).trans e29) ?_
            refine jr.isub rfl ?_
            refine jr.iw (j_w ((j_w (q_ + n_)) - v29)) (j_w_eq _) ?_
            have b30 : -2147483648 ≤ j_w ((j_w (q_ + n_)) - v29) ∧ j_w ((j_w (q_ + n_)) - v29) ≤ 2147483647 := jb_any _
            refine jr.if_le rfl rfl (by first | (refine rgb (by assumption) ?_; exact rfl) | omega) (fun h187 => ?_) (fun h187 => ?_)
            · refine jr.aload_n rfl rfl ?_
              have k31 := kf_1_9 k_t
              refine jr.getf (i := 9) (v := .ref (t + 5)) rfl rfl (Nat.lt_trans (kx_1 k_t).1 (by decide)) (kx_1 k_t).2 (by decide) rfl rfl rfl (jval_ref rfl k31.1) ?_
              refine jr.iload_n rfl rfl ?_
              refine jr.aload_n rfl rfl ?_
              refine jr.iload_n rfl rfl ?_
              refine jr.bipush rfl (jbp _ (nlt rfl)) ?_
              refine jr_v rfl rfl (Or.inl rfl) rfl rfl (nlt rfl) rfl ⟨rfl, Nat.le_of_ble_eq_true rfl, Nat.le_of_ble_eq_true rfl⟩ rfl (jc.deep (c_Headers_valueOf_x (CI.u hC_M (i := 5) k_t (show (-2147483648 : Int) ≤ _ ∧ _ ≤ (2147483647 : Int) from by omega) rfl) (show kd 3 = 18 from rfl) (by omega) (by omega) ((ju_i _ _ (zne (by decide))).trans g_C) (HS.fr hy0 (show kd 3 = 18 from rfl) hC_M (FR.o (FR.rfl [(1, 5)] M) k_t rfl) rfl) (fun r32 z32 w32_0 => ?_)) (Nat.le_of_ble_eq_true rfl))
              have hv32 : 0 ≤ r32 ∧ r32 ≤ 65535 := (by have h9 := (st_v hy3).2.2; rw [← w32_0] at h9; exact h9)
              refine jr.l2i rfl ?_
              refine jr.iast (i := z) (x := r32) rfl (Nat.lt_trans (kx_8 k31.2).1 (by decide)) (kx_8 k31.2).2 (by decide) (by omega) (by omega) ?_
              refine jr.iconst rfl ?_
              exact jr.ireturn rfl rfl rfl (q _ _ (CI.u (CI.u hC_M (i := 5) k_t (show (-2147483648 : Int) ≤ _ ∧ _ ≤ (2147483647 : Int) from by omega) rfl) (i := z) k31.2 (show (-2147483648 : Int) ≤ _ ∧ _ ≤ (2147483647 : Int) from by omega) rfl) (FR.o (FR.o ht_M k_t rfl) k31.2 rfl) (by omega) (by obtain ⟨hs, hb, hq, hn⟩ := hy1; have hT := hy2; exact Or.inr (Or.inr ⟨by rw [hs, hb]; omega, (fun u => by rw [hs] at u; omega), rfl, M, Or.inr ⟨(fun u => by rw [hs, ← hT] at u; omega), hT⟩, by rw [hs, hb, hq, hn, ← w32_0]; rw [tsM_n (by rw [e21, e29]; omega)]⟩)))
            · refine jr.aload_n rfl rfl ?_
              have k33 := kf_1_7 k_t
              refine jr.getf (i := 7) (v := .ref (t + 3)) rfl rfl (Nat.lt_trans (kx_1 k_t).1 (by decide)) (kx_1 k_t).2 (by decide) rfl rfl rfl (jval_ref rfl k33.1) ?_
              refine jr.iload_n rfl rfl ?_
              refine jr.iload rfl rfl ?_
              refine jr.iload rfl rfl ?_
              refine jr.iadd rfl ?_
              refine jr.iw (j_w (q_ + n_)) (j_w_eq _) ?_
              have b34 : -2147483648 ≤ j_w (q_ + n_) ∧ j_w (q_ + n_) ≤ 2147483647 := jb_any _
              refine jr.iast (i := z) (x := (j_w (q_ + n_))) rfl (Nat.lt_trans (kx_5 k33.2).1 (by decide)) (kx_5 k33.2).2 (by decide) (by omega) (by omega) ?_
              refine jr.aload_n rfl rfl ?_
              have k35 := kf_1_8 k_t
              refine jr.getf (i := 8) (v := .ref (t + 4)) rfl rfl (Nat.lt_trans (kx_1 k_t).1 (by decide)) (kx_1 k_t).2 (by decide) rfl rfl rfl (jval_ref rfl k35.1) ?_
              refine jr.iload_n rfl rfl ?_
              refine jr.iconst rfl ?_
              refine jr.zast (i := z) (x := 1) rfl (Nat.lt_trans (kx_4 k35.2).1 (by decide)) (kx_4 k35.2).2 (by decide) (by omega) (by omega) (j_zn (by omega)) ?_
              refine jr.aload_n rfl rfl ?_
              have k36 := kf_1_9 k_t
              refine jr.getf (i := 9) (v := .ref (t + 5)) rfl rfl (Nat.lt_trans (kx_1 k_t).1 (by decide)) (kx_1 k_t).2 (by decide) rfl rfl rfl (jval_ref rfl k36.1) ?_
              refine jr.iload_n rfl rfl ?_
              refine jr.aload_n rfl rfl ?_
              refine jr.iload_n rfl rfl ?_
              refine jr.bipush rfl (jbp _ (nlt rfl)) ?_
              refine jr_v rfl rfl (Or.inl rfl) rfl rfl (nlt rfl) rfl ⟨rfl, Nat.le_of_ble_eq_true rfl, Nat.le_of_ble_eq_true rfl⟩ rfl (jc.deep (c_Headers_valueOf_x (CI.u (CI.u (CI.u hC_M (i := 5) k_t (show (-2147483648 : Int) ≤ _ ∧ _ ≤ (2147483647 : Int) from by omega) rfl) (i := z) k33.2 (show (-2147483648 : Int) ≤ _ ∧ _ ≤ (2147483647 : Int) from by omega) rfl) (i := z) k35.2 (show (0 : Int) ≤ _ ∧ _ ≤ (1 : Int) from by omega) rfl) (show kd 3 = 18 from rfl) (by omega) (by omega) ((ju_c _ _ (kd_ne (by rw [(show kd 3 = 18 from rfl), k35.2]; decide))).trans ((ju_c _ _ (kd_ne (by rw [(show kd 3 = 18 from rfl), k33.2]; decide))).trans ((ju_i _ _ (zne (by decide))).trans g_C))) (HS.fr hy0 (show kd 3 = 18 from rfl) hC_M (FR.o (FR.o (FR.o (FR.rfl [(1, 5), (4, 1000), (5, 1000)] M) k_t rfl) k33.2 rfl) k35.2 rfl) rfl) (fun r37 z37 w37_0 => ?_)) (Nat.le_of_ble_eq_true rfl))
              have hv37 : 0 ≤ r37 ∧ r37 ≤ 65535 := (by have h9 := (st_v hy3).2.2; rw [← w37_0] at h9; exact h9)
              refine jr.l2i rfl ?_
              refine jr.iast (i := z) (x := r37) rfl (Nat.lt_trans (kx_8 k36.2).1 (by decide)) (kx_8 k36.2).2 (by decide) (by omega) (by omega) ?_
              refine jr.iconst rfl ?_
              exact jr.ireturn rfl rfl rfl (q _ _ (CI.u (CI.u (CI.u (CI.u hC_M (i := 5) k_t (show (-2147483648 : Int) ≤ _ ∧ _ ≤ (2147483647 : Int) from by omega) rfl) (i := z) k33.2 (show (-2147483648 : Int) ≤ _ ∧ _ ≤ (2147483647 : Int) from by omega) rfl) (i := z) k35.2 (show (0 : Int) ≤ _ ∧ _ ≤ (1 : Int) from by omega) rfl) (i := z) k36.2 (show (-2147483648 : Int) ≤ _ ∧ _ ≤ (2147483647 : Int) from by omega) rfl) (FR.o (FR.o (FR.o (FR.o ht_M k_t rfl) k33.2 rfl) k35.2 rfl) k36.2 rfl) (by omega) (by obtain ⟨hs, hb, hq, hn⟩ := hy1; have hT := hy2; exact Or.inr (Or.inr ⟨by rw [hs, hb]; omega, (fun u => by rw [hs] at u; omega), rfl, M, Or.inr ⟨(fun u => by rw [hs, ← hT] at u; omega), hT⟩, by rw [hs, hb, hq, hn, ← w37_0]; rw [tsM_p (by rw [e21, e29]; first | (left; omega) | (right; omega))]⟩)))
        · refine jr.aload_n rfl rfl ?_
          obtain ⟨v38, e38⟩ : ∃ z_, M t 5 = z_ := ⟨_, rfl⟩
          have b38 : (-2147483648) ≤ v38 ∧ v38 ≤ 2147483647 := by rw [← e38]; exact (CI.r hC_M k_t (by decide) 5)
          refine jr.getf (i := 5) (x := v38) (v := .int (Int32.ofInt (v38))) rfl rfl (Nat.lt_trans (kx_1 k_t).1 (by decide)) (kx_1 k_t).2 (by decide) rfl rfl e38 rfl ?_
          refine jr.bipush rfl (jbp _ (nlt rfl)) ?_
          refine jr.icmp_lt rfl rfl (by first | (refine rgb (by assumption) ?_; exact rfl) | omega) (rgl rfl) (fun h153 => ?_) (fun h153 => ?_)
          · refine jr.aload_n rfl rfl ?_
            refine jr.iload rfl rfl ?_
            refine jr.putf (i := 5) (x := b_) rfl rfl (Nat.lt_trans (kx_1 k_t).1 (by decide)) (kx_1 k_t).2 (by decide) rfl rfl rfl rfl rfl ?_
            refine jr.aload_n rfl rfl ?_
            have k39 := kf_1_8 k_t
            refine jr.getf (i := 8) (v := .ref (t + 4)) rfl rfl (Nat.lt_trans (kx_1 k_t).1 (by decide)) (kx_1 k_t).2 (by decide) rfl rfl rfl (jval_ref rfl k39.1) ?_
            refine jr.iload_n rfl rfl ?_
            obtain ⟨v40, e40⟩ : ∃ z_, M ((t + 4)) z = z_ := ⟨_, rfl⟩
            have b40 : 0 ≤ v40 ∧ v40 ≤ 1 := by rw [← e40]; exact (CI.r hC_M k39.2 (by decide) z)
            refine jr.zald (i := z) (x := v40) rfl (Nat.lt_trans (kx_4 k39.2).1 (by decide)) (kx_4 k39.2).2 (by decide) (by omega) (by omega) ((ju_c _ _ (kd_ne (by rw [k39.2, k_t]; decide))).trans e40) ?_
            refine jr.if_eq rfl rfl (by first | (refine rgb (by assumption) ?_; exact rfl) | omega) (fun h172 => ?_) (fun h172 => ?_)
            · refine jr.aload_n rfl rfl ?_
              have k41 := kf_1_7 k_t
              refine jr.getf (i := 7) (v := .ref (t + 3)) rfl rfl (Nat.lt_trans (kx_1 k_t).1 (by decide)) (kx_1 k_t).2 (by decide) rfl rfl rfl (jval_ref rfl k41.1) ?_
              refine jr.iload_n rfl rfl ?_
              refine jr.iload rfl rfl ?_
              refine jr.iload rfl rfl ?_
              refine jr.iadd rfl ?_
              refine jr.iw (j_w (q_ + n_)) (j_w_eq _) ?_
              have b42 : -2147483648 ≤ j_w (q_ + n_) ∧ j_w (q_ + n_) ≤ 2147483647 := jb_any _
              refine jr.iast (i := z) (x := (j_w (q_ + n_))) rfl (Nat.lt_trans (kx_5 k41.2).1 (by decide)) (kx_5 k41.2).2 (by decide) (by omega) (by omega) ?_
              refine jr.aload_n rfl rfl ?_
              have k43 := kf_1_8 k_t
              refine jr.getf (i := 8) (v := .ref (t + 4)) rfl rfl (Nat.lt_trans (kx_1 k_t).1 (by decide)) (kx_1 k_t).2 (by decide) rfl rfl rfl (jval_ref rfl k43.1) ?_
              refine jr.iload_n rfl rfl ?_
              refine jr.iconst rfl ?_
              refine jr.zast (i := z) (x := 1) rfl (Nat.lt_trans (kx_4 k43.2).1 (by decide)) (kx_4 k43.2).2 (by decide) (by omega) (by omega) (j_zn (by omega)) ?_
              refine jr.aload_n rfl rfl ?_
              have k44 := kf_1_9 k_t
              refine jr.getf (i := 9) (v := .ref (t + 5)) rfl rfl (Nat.lt_trans (kx_1 k_t).1 (by decide)) (kx_1 k_t).2 (by decide) rfl rfl rfl (jval_ref rfl k44.1) ?_
              refine jr.iload_n rfl rfl ?_
              refine jr.aload_n rfl rfl ?_
              refine jr.iload_n rfl rfl ?_
              refine jr.bipush rfl (jbp _ (nlt rfl)) ?_
              refine jr_v rfl rfl (Or.inl rfl) rfl rfl (nlt rfl) rfl ⟨rfl, Nat.le_of_ble_eq_true rfl, Nat.le_of_ble_eq_true rfl⟩ rfl (jc.deep (c_Headers_valueOf_x (CI.u (CI.u (CI.u hC_M (i := 5) k_t (show (-2147483648 : Int) ≤ _ ∧ _ ≤ (2147483647 : Int) from by omega) rfl) (i := z) k41.2 (show (-2147483648 : Int) ≤ _ ∧ _ ≤ (2147483647 : Int) from by omega) rfl) (i := z) k43.2 (show (0 : Int) ≤ _ ∧ _ ≤ (1 : Int) from by omega) rfl) (show kd 3 = 18 from rfl) (by omega) (by omega) ((ju_c _ _ (kd_ne (by rw [(show kd 3 = 18 from rfl), k43.2]; decide))).trans ((ju_c _ _ (kd_ne (by rw [(show kd 3 = 18 from rfl), k41.2]; decide))).trans ((ju_i _ _ (zne (by decide))).trans g_C))) (HS.fr hy0 (show kd 3 = 18 from rfl) hC_M (FR.o (FR.o (FR.o (FR.rfl [(1, 5), (4, 1000), (5, 1000)] M) k_t rfl) k41.2 rfl) k43.2 rfl) rfl) (fun r45 z45 w45_0 => ?_)) (Nat.le_of_ble_eq_true rfl))
              have hv45 : 0 ≤ r45 ∧ r45 ≤ 65535 := (by have h9 := (st_v hy3).2.2; rw [← w45_0] at h9; exact h9)
              refine jr.l2i rfl ?_
              refine jr.iast (i := z) (x := r45) rfl (Nat.lt_trans (kx_8 k44.2).1 (by decide)) (kx_8 k44.2).2 (by decide) (by omega) (by omega) ?_
              refine jr.iconst rfl ?_
              exact jr.ireturn rfl rfl rfl (q _ _ (CI.u (CI.u (CI.u (CI.u hC_M (i := 5) k_t (show (-2147483648 : Int) ≤ _ ∧ _ ≤ (2147483647 : Int) from by omega) rfl) (i := z) k41.2 (show (-2147483648 : Int) ≤ _ ∧ _ ≤ (2147483647 : Int) from by omega) rfl) (i := z) k43.2 (show (0 : Int) ≤ _ ∧ _ ≤ (1 : Int) from by omega) rfl) (i := z) k44.2 (show (-2147483648 : Int) ≤ _ ∧ _ ≤ (2147483647 : Int) from by omega) rfl) (FR.o (FR.o (FR.o (FR.o ht_M k_t rfl) k41.2 rfl) k43.2 rfl) k44.2 rfl) (by omega) (by obtain ⟨hs, hb, hq, hn⟩ := hy1; have hT := hy2; exact Or.inr (Or.inr ⟨by rw [hs, hb]; omega, (fun u => by rw [hs] at u; omega), rfl, M, Or.inr ⟨(fun u => by rw [hs, ← hT, e38] at u; omega), hT⟩, by rw [hs, hb, hq, hn, ← w45_0]; rw [tsM_p (by rw [e40]; first | (left; omega) | (right; omega))]⟩)))
            · have sx172 : (1 : Int) ≤ v40 := by omega
              clear h172
              refine jr.iload rfl rfl ?_
              refine jr.iload rfl rfl ?_
              refine jr.iadd rfl ?_
              refine jr.iw (j_w (q_ + n_)) (j_w_eq _) ?_
              have b46 : -2147483648 ≤ j_w (q_ + n_) ∧ j_w (q_ + n_) ≤ 2147483647 := jb_any _
              refine jr.aload_n rfl rfl ?_
              have k47 := kf_1_7 k_t
              refine jr.getf (i := 7) (v := .ref (t + 3)) rfl rfl (Nat.lt_trans (kx_1 k_t).1 (by decide)) (kx_1 k_t).2 (by decide) rfl rfl rfl (jval_ref rfl k47.1) ?_
              refine jr.iload_n rfl rfl ?_
              obtain ⟨v48, e48⟩ : ∃ z_, M ((t + 3)) z = z_ := ⟨_, rfl⟩
              have b48 : (-2147483648) ≤ v48 ∧ v48 ≤ 2147483647 := by rw [← e48]; exact (CI.r hC_M k47.2 (by decide) z)
              refine jr.iald (i := z) (x := v48) rfl (Nat.lt_trans (kx_5 k47.2).1 (by decide)) (kx_5 k47.2).2 (by decide) (by omega) (by omega) ((ju_c _ _ (kd_ne (by rw [k47.2, k_t]; decide))).trans e48) ?_
              refine jr.isub rfl ?_
              refine jr.iw (j_w ((j_w (q_ + n_)) - v48)) (j_w_eq _) ?_
              have b49 : -2147483648 ≤ j_w ((j_w (q_ + n_)) - v48) ∧ j_w ((j_w (q_ + n_)) - v48) ≤ 2147483647 := jb_any _
              refine jr.if_le rfl rfl (by first | (refine rgb (by assumption) ?_; exact rfl) | omega) (fun h187 => ?_) (fun h187 => ?_)
              · refine jr.aload_n rfl rfl ?_
                have k50 := kf_1_9 k_t
                refine jr.getf (i := 9) (v := .ref (t + 5)) rfl rfl (Nat.lt_trans (kx_1 k_t).1 (by decide)) (kx_1 k_t).2 (by decide) rfl rfl rfl (jval_ref rfl k50.1) ?_
                refine jr.iload_n rfl rfl ?_
                refine jr.aload_n rfl rfl ?_
                refine jr.iload_n rfl rfl ?_
                refine jr.bipush rfl (jbp _ (nlt rfl)) ?_
                refine jr_v rfl rfl (Or.inl rfl) rfl rfl (nlt rfl) rfl ⟨rfl, Nat.le_of_ble_eq_true rfl, Nat.le_of_ble_eq_true rfl⟩ rfl (jc.deep (c_Headers_valueOf_x (CI.u hC_M (i := 5) k_t (show (-2147483648 : Int) ≤ _ ∧ _ ≤ (2147483647 : Int) from by omega) rfl) (show kd 3 = 18 from rfl) (by omega) (by omega) ((ju_i _ _ (zne (by decide))).trans g_C) (HS.fr hy0 (show kd 3 = 18 from rfl) hC_M (FR.o (FR.rfl [(1, 5)] M) k_t rfl) rfl) (fun r51 z51 w51_0 => ?_)) (Nat.le_of_ble_eq_true rfl))
                have hv51 : 0 ≤ r51 ∧ r51 ≤ 65535 := (by have h9 := (st_v hy3).2.2; rw [← w51_0] at h9; exact h9)
                refine jr.l2i rfl ?_
                refine jr.iast (i := z) (x := r51) rfl (Nat.lt_trans (kx_8 k50.2).1 (by decide)) (kx_8 k50.2).2 (by decide) (by omega) (by omega) ?_
                refine jr.iconst rfl ?_
                exact jr.ireturn rfl rfl rfl (q _ _ (CI.u (CI.u hC_M (i := 5) k_t (show (-2147483648 : Int) ≤ _ ∧ _ ≤ (2147483647 : Int) from by omega) rfl) (i := z) k50.2 (show (-2147483648 : Int) ≤ _ ∧ _ ≤ (2147483647 : Int) from by omega) rfl) (FR.o (FR.o ht_M k_t rfl) k50.2 rfl) (by omega) (by obtain ⟨hs, hb, hq, hn⟩ := hy1; have hT := hy2; exact Or.inr (Or.inr ⟨by rw [hs, hb]; omega, (fun u => by rw [hs] at u; omega), rfl, M, Or.inr ⟨(fun u => by rw [hs, ← hT, e38] at u; omega), hT⟩, by rw [hs, hb, hq, hn, ← w51_0]; rw [tsM_n (by rw [e40, e48]; omega)]⟩)))
              · refine jr.aload_n rfl rfl ?_
                have k52 := kf_1_7 k_t
                refine jr.getf (i := 7) (v := .ref (t + 3)) rfl rfl (Nat.lt_trans (kx_1 k_t).1 (by decide)) (kx_1 k_t).2 (by decide) rfl rfl rfl (jval_ref rfl k52.1) ?_
                refine jr.iload_n rfl rfl ?_
                refine jr.iload rfl rfl ?_
                refine jr.iload rfl rfl ?_
                refine jr.iadd rfl ?_
                refine jr.iw (j_w (q_ + n_)) (j_w_eq _) ?_
                have b53 : -2147483648 ≤ j_w (q_ + n_) ∧ j_w (q_ + n_) ≤ 2147483647 := jb_any _
                refine jr.iast (i := z) (x := (j_w (q_ + n_))) rfl (Nat.lt_trans (kx_5 k52.2).1 (by decide)) (kx_5 k52.2).2 (by decide) (by omega) (by omega) ?_
                refine jr.aload_n rfl rfl ?_
                have k54 := kf_1_8 k_t
                refine jr.getf (i := 8) (v := .ref (t + 4)) rfl rfl (Nat.lt_trans (kx_1 k_t).1 (by decide)) (kx_1 k_t).2 (by decide) rfl rfl rfl (jval_ref rfl k54.1) ?_
                refine jr.iload_n rfl rfl ?_
                refine jr.iconst rfl ?_
                refine jr.zast (i := z) (x := 1) rfl (Nat.lt_trans (kx_4 k54.2).1 (by decide)) (kx_4 k54.2).2 (by decide) (by omega) (by omega) (j_zn (by omega)) ?_
                refine jr.aload_n rfl rfl ?_
                have k55 := kf_1_9 k_t
                refine jr.getf (i := 9) (v := .ref (t + 5)) rfl rfl (Nat.lt_trans (kx_1 k_t).1 (by decide)) (kx_1 k_t).2 (by decide) rfl rfl rfl (jval_ref rfl k55.1) ?_
                refine jr.iload_n rfl rfl ?_
                refine jr.aload_n rfl rfl ?_
                refine jr.iload_n rfl rfl ?_
                refine jr.bipush rfl (jbp _ (nlt rfl)) ?_
                refine jr_v rfl rfl (Or.inl rfl) rfl rfl (nlt rfl) rfl ⟨rfl, Nat.le_of_ble_eq_true rfl, Nat.le_of_ble_eq_true rfl⟩ rfl (jc.deep (c_Headers_valueOf_x (CI.u (CI.u (CI.u hC_M (i := 5) k_t (show (-2147483648 : Int) ≤ _ ∧ _ ≤ (2147483647 : Int) from by omega) rfl) (i := z) k52.2 (show (-2147483648 : Int) ≤ _ ∧ _ ≤ (2147483647 : Int) from by omega) rfl) (i := z) k54.2 (show (0 : Int) ≤ _ ∧ _ ≤ (1 : Int) from by omega) rfl) (show kd 3 = 18 from rfl) (by omega) (by omega) ((ju_c _ _ (kd_ne (by rw [(show kd 3 = 18 from rfl), k54.2]; decide))).trans ((ju_c _ _ (kd_ne (by rw [(show kd 3 = 18 from rfl), k52.2]; decide))).trans ((ju_i _ _ (zne (by decide))).trans g_C))) (HS.fr hy0 (show kd 3 = 18 from rfl) hC_M (FR.o (FR.o (FR.o (FR.rfl [(1, 5), (4, 1000), (5, 1000)] M) k_t rfl) k52.2 rfl) k54.2 rfl) rfl) (fun r56 z56 w56_0 => ?_)) (Nat.le_of_ble_eq_true rfl))
                have hv56 : 0 ≤ r56 ∧ r56 ≤ 65535 := (by have h9 := (st_v hy3).2.2; rw [← w56_0] at h9; exact h9)
                refine jr.l2i rfl ?_
                refine jr.iast (i := z) (x := r56) rfl (Nat.lt_trans (kx_8 k55.2).1 (by decide)) (kx_8 k55.2).2 (by decide) (by omega) (by omega) ?_
                refine jr.iconst rfl ?_
                exact jr.ireturn rfl rfl rfl (q _ _ (CI.u (CI.u (CI.u (CI.u hC_M (i := 5) k_t (show (-2147483648 : Int) ≤ _ ∧ _ ≤ (2147483647 : Int) from by omega) rfl) (i := z) k52.2 (show (-2147483648 : Int) ≤ _ ∧ _ ≤ (2147483647 : Int) from by omega) rfl) (i := z) k54.2 (show (0 : Int) ≤ _ ∧ _ ≤ (1 : Int) from by omega) rfl) (i := z) k55.2 (show (-2147483648 : Int) ≤ _ ∧ _ ≤ (2147483647 : Int) from by omega) rfl) (FR.o (FR.o (FR.o (FR.o ht_M k_t rfl) k52.2 rfl) k54.2 rfl) k55.2 rfl) (by omega) (by obtain ⟨hs, hb, hq, hn⟩ := hy1; have hT := hy2; exact Or.inr (Or.inr ⟨by rw [hs, hb]; omega, (fun u => by rw [hs] at u; omega), rfl, M, Or.inr ⟨(fun u => by rw [hs, ← hT, e38] at u; omega), hT⟩, by rw [hs, hb, hq, hn, ← w56_0]; rw [tsM_p (by rw [e40, e48]; first | (left; omega) | (right; omega))]⟩)))
          · refine jr.aload_n rfl rfl ?_
            refine jr_v rfl rfl (Or.inl rfl) rfl rfl (Nat.lt_trans (kx_1 k_t).1 (by decide)) (kx_1 k_t).2 ⟨rfl, Nat.le_of_ble_eq_true rfl, Nat.le_of_ble_eq_true rfl⟩ rfl (jc.deep (c_Flow_forget_x hC_M (FR.rfl _ M) k_t rfl (fun M57 hC_M57 hf_M57 w57_0 => ?_)) (Nat.le_of_ble_eq_true rfl))
            have ht_M57 : FR W_c_Flow_takeStream_x T M57 := FR.t ht_M hf_M57 (kw_sub rfl)
            refine jr.aload_n rfl rfl ?_
            refine jr.iload rfl rfl ?_
            refine jr.putf (i := 5) (x := b_) rfl rfl (Nat.lt_trans (kx_1 k_t).1 (by decide)) (kx_1 k_t).2 (by decide) rfl rfl rfl rfl rfl ?_
            refine jr.aload_n rfl rfl ?_
            have k58 := kf_1_8 k_t
            refine jr.getf (i := 8) (v := .ref (t + 4)) rfl rfl (Nat.lt_trans (kx_1 k_t).1 (by decide)) (kx_1 k_t).2 (by decide) rfl rfl rfl (jval_ref rfl k58.1) ?_
            refine jr.iload_n rfl rfl ?_
            obtain ⟨v59, e59⟩ : ∃ z_, M57 ((t + 4)) z = z_ := ⟨_, rfl⟩
            have b59 : 0 ≤ v59 ∧ v59 ≤ 1 := by rw [← e59]; exact (CI.r hC_M57 k58.2 (by decide) z)
            refine jr.zald (i := z) (x := v59) rfl (Nat.lt_trans (kx_4 k58.2).1 (by decide)) (kx_4 k58.2).2 (by decide) (by omega) (by omega) ((ju_c _ _ (kd_ne (by rw [k58.2, k_t]; decide))).trans e59) ?_
            refine jr.if_eq rfl rfl (by first | (refine rgb (by assumption) ?_; exact rfl) | omega) (fun h172 => ?_) (fun h172 => ?_)
            · refine jr.aload_n rfl rfl ?_
              have k60 := kf_1_7 k_t
              refine jr.getf (i := 7) (v := .ref (t + 3)) rfl rfl (Nat.lt_trans (kx_1 k_t).1 (by decide)) (kx_1 k_t).2 (by decide) rfl rfl rfl (jval_ref rfl k60.1) ?_
              refine jr.iload_n rfl rfl ?_
              refine jr.iload rfl rfl ?_
              refine jr.iload rfl rfl ?_
              refine jr.iadd rfl ?_
              refine jr.iw (j_w (q_ + n_)) (j_w_eq _) ?_
              have b61 : -2147483648 ≤ j_w (q_ + n_) ∧ j_w (q_ + n_) ≤ 2147483647 := jb_any _
              refine jr.iast (i := z) (x := (j_w (q_ + n_))) rfl (Nat.lt_trans (kx_5 k60.2).1 (by decide)) (kx_5 k60.2).2 (by decide) (by omega) (by omega) ?_
              refine jr.aload_n rfl rfl ?_
              have k62 := kf_1_8 k_t
              refine jr.getf (i := 8) (v := .ref (t + 4)) rfl rfl (Nat.lt_trans (kx_1 k_t).1 (by decide)) (kx_1 k_t).2 (by decide) rfl rfl rfl (jval_ref rfl k62.1) ?_
              refine jr.iload_n rfl rfl ?_
              refine jr.iconst rfl ?_
              refine jr.zast (i := z) (x := 1) rfl (Nat.lt_trans (kx_4 k62.2).1 (by decide)) (kx_4 k62.2).2 (by decide) (by omega) (by omega) (j_zn (by omega)) ?_
              refine jr.aload_n rfl rfl ?_
              have k63 := kf_1_9 k_t
              refine jr.getf (i := 9) (v := .ref (t + 5)) rfl rfl (Nat.lt_trans (kx_1 k_t).1 (by decide)) (kx_1 k_t).2 (by decide) rfl rfl rfl (jval_ref rfl k63.1) ?_
              refine jr.iload_n rfl rfl ?_
              refine jr.aload_n rfl rfl ?_
              refine jr.iload_n rfl rfl ?_
              refine jr.bipush rfl (jbp _ (nlt rfl)) ?_
              have e65 : M57 3 3 = C := (hf_M57.g (show kd 3 = 18 from rfl) rfl).trans g_C
              refine jr_v rfl rfl (Or.inl rfl) rfl rfl (nlt rfl) rfl ⟨rfl, Nat.le_of_ble_eq_true rfl, Nat.le_of_ble_eq_true rfl⟩ rfl (jc.deep (c_Headers_valueOf_x (CI.u (CI.u (CI.u hC_M57 (i := 5) k_t (show (-2147483648 : Int) ≤ _ ∧ _ ≤ (2147483647 : Int) from by omega) rfl) (i := z) k60.2 (show (-2147483648 : Int) ≤ _ ∧ _ ≤ (2147483647 : Int) from by omega) rfl) (i := z) k62.2 (show (0 : Int) ≤ _ ∧ _ ≤ (1 : Int) from by omega) rfl) (show kd 3 = 18 from rfl) (by omega) (by omega) ((ju_c _ _ (kd_ne (by rw [(show kd 3 = 18 from rfl), k62.2]; decide))).trans ((ju_c _ _ (kd_ne (by rw [(show kd 3 = 18 from rfl), k60.2]; decide))).trans ((ju_i _ _ (zne (by decide))).trans e65))) (HS.fr (HS.fr hy0 (show kd 3 = 18 from rfl) hC_M hf_M57 rfl) (show kd 3 = 18 from rfl) hC_M57 (FR.o (FR.o (FR.o (FR.rfl [(1, 5), (4, 1000), (5, 1000)] M57) k_t rfl) k60.2 rfl) k62.2 rfl) rfl) (fun r64 z64 w64_0 => ?_)) (Nat.le_of_ble_eq_true rfl))
              have hv64 : 0 ≤ r64 ∧ r64 ≤ 65535 := (by have h9 := (st_v hy3).2.2; rw [← w64_0] at h9; exact h9)
              refine jr.l2i rfl ?_
              refine jr.iast (i := z) (x := r64) rfl (Nat.lt_trans (kx_8 k63.2).1 (by decide)) (kx_8 k63.2).2 (by decide) (by omega) (by omega) ?_
              refine jr.iconst rfl ?_
              exact jr.ireturn rfl rfl rfl (q _ _ (CI.u (CI.u (CI.u (CI.u hC_M57 (i := 5) k_t (show (-2147483648 : Int) ≤ _ ∧ _ ≤ (2147483647 : Int) from by omega) rfl) (i := z) k60.2 (show (-2147483648 : Int) ≤ _ ∧ _ ≤ (2147483647 : Int) from by omega) rfl) (i := z) k62.2 (show (0 : Int) ≤ _ ∧ _ ≤ (1 : Int) from by omega) rfl) (i := z) k63.2 (show (-2147483648 : Int) ≤ _ ∧ _ ≤ (2147483647 : Int) from by omega) rfl) (FR.o (FR.o (FR.o (FR.o ht_M57 k_t rfl) k60.2 rfl) k62.2 rfl) k63.2 rfl) (by omega) (by obtain ⟨hs, hb, hq, hn⟩ := hy1; have hT := hy2; exact Or.inr (Or.inr ⟨by rw [hs, hb]; omega, (fun u => by rw [hs] at u; omega), rfl, M57, Or.inl ⟨⟨by rw [hs]; omega, by rw [← hT, e38]; omega⟩, by rw [← hT]; exact w57_0⟩, by rw [hs, hb, hq, hn, ← w64_0]; rw [tsM_p (by rw [e59]; first | (left; omega) | (right; omega))]⟩)))
            · have sx172 : (1 : Int) ≤ v59 := by omega
              clear h172
              refine jr.iload rfl rfl ?_
              refine jr.iload rfl rfl ?_
              refine jr.iadd rfl ?_
              refine jr.iw (j_w (q_ + n_)) (j_w_eq _) ?_
              have b66 : -2147483648 ≤ j_w (q_ + n_) ∧ j_w (q_ + n_) ≤ 2147483647 := jb_any _
              refine jr.aload_n rfl rfl ?_
              have k67 := kf_1_7 k_t
              refine jr.getf (i := 7) (v := .ref (t + 3)) rfl rfl (Nat.lt_trans (kx_1 k_t).1 (by decide)) (kx_1 k_t).2 (by decide) rfl rfl rfl (jval_ref rfl k67.1) ?_
              refine jr.iload_n rfl rfl ?_
              obtain ⟨v68, e68⟩ : ∃ z_, M57 ((t + 3)) z = z_ := ⟨_, rfl⟩
              have b68 : (-2147483648) ≤ v68 ∧ v68 ≤ 2147483647 := by rw [← e68]; exact (CI.r hC_M57 k67.2 (by decide) z)
              refine jr.iald (i := z) (x := v68) rfl (Nat.lt_trans (kx_5 k67.2).1 (by decide)) (kx_5 k67.2).2 (by decide) (by omega) (by omega) ((ju_c _ _ (kd_ne (by rw [k67.2, k_t]; decide))).trans e68) ?_
              refine jr.isub rfl ?_
              refine jr.iw (j_w ((j_w (q_ + n_)) - v68)) (j_w_eq _) ?_
              have b69 : -2147483648 ≤ j_w ((j_w (q_ + n_)) - v68) ∧ j_w ((j_w (q_ + n_)) - v68) ≤ 2147483647 := jb_any _
              refine jr.if_le rfl rfl (by first | (refine rgb (by assumption) ?_; exact rfl) | omega) (fun h187 => ?_) (fun h187 => ?_)
              · refine jr.aload_n rfl rfl ?_
                have k70 := kf_1_9 k_t
                refine jr.getf (i := 9) (v := .ref (t + 5)) rfl rfl (Nat.lt_trans (kx_1 k_t).1 (by decide)) (kx_1 k_t).2 (by decide) rfl rfl rfl (jval_ref rfl k70.1) ?_
                refine jr.iload_n rfl rfl ?_
                refine jr.aload_n rfl rfl ?_
                refine jr.iload_n rfl rfl ?_
                refine jr.bipush rfl (jbp _ (nlt rfl)) ?_
                have e72 : M57 3 3 = C := (hf_M57.g (show kd 3 = 18 from rfl) rfl).trans g_C
                refine jr_v rfl rfl (Or.inl rfl) rfl rfl (nlt rfl) rfl ⟨rfl, Nat.le_of_ble_eq_true rfl, Nat.le_of_ble_eq_true rfl⟩ rfl (jc.deep (c_Headers_valueOf_x (CI.u hC_M57 (i := 5) k_t (show (-2147483648 : Int) ≤ _ ∧ _ ≤ (2147483647 : Int) from by omega) rfl) (show kd 3 = 18 from rfl) (by omega) (by omega) ((ju_i _ _ (zne (by decide))).trans e72) (HS.fr (HS.fr hy0 (show kd 3 = 18 from rfl) hC_M hf_M57 rfl) (show kd 3 = 18 from rfl) hC_M57 (FR.o (FR.rfl [(1, 5)] M57) k_t rfl) rfl) (fun r71 z71 w71_0 => ?_)) (Nat.le_of_ble_eq_true rfl))
                have hv71 : 0 ≤ r71 ∧ r71 ≤ 65535 := (by have h9 := (st_v hy3).2.2; rw [← w71_0] at h9; exact h9)
                refine jr.l2i rfl ?_
                refine jr.iast (i := z) (x := r71) rfl (Nat.lt_trans (kx_8 k70.2).1 (by decide)) (kx_8 k70.2).2 (by decide) (by omega) (by omega) ?_
                refine jr.iconst rfl ?_
                exact jr.ireturn rfl rfl rfl (q _ _ (CI.u (CI.u hC_M57 (i := 5) k_t (show (-2147483648 : Int) ≤ _ ∧ _ ≤ (2147483647 : Int) from by omega) rfl) (i := z) k70.2 (show (-2147483648 : Int) ≤ _ ∧ _ ≤ (2147483647 : Int) from by omega) rfl) (FR.o (FR.o ht_M57 k_t rfl) k70.2 rfl) (by omega) (by obtain ⟨hs, hb, hq, hn⟩ := hy1; have hT := hy2; exact Or.inr (Or.inr ⟨by rw [hs, hb]; omega, (fun u => by rw [hs] at u; omega), rfl, M57, Or.inl ⟨⟨by rw [hs]; omega, by rw [← hT, e38]; omega⟩, by rw [← hT]; exact w57_0⟩, by rw [hs, hb, hq, hn, ← w71_0]; rw [tsM_n (by rw [e59, e68]; omega)]⟩)))
              · refine jr.aload_n rfl rfl ?_
                have k73 := kf_1_7 k_t
                refine jr.getf (i := 7) (v := .ref (t + 3)) rfl rfl (Nat.lt_trans (kx_1 k_t).1 (by decide)) (kx_1 k_t).2 (by decide) rfl rfl rfl (jval_ref rfl k73.1) ?_
                refine jr.iload_n rfl rfl ?_
                refine jr.iload rfl rfl ?_
                refine jr.iload rfl rfl ?_
                refine jr.iadd rfl ?_
                refine jr.iw (j_w (q_ + n_)) (j_w_eq _) ?_
                have b74 : -2147483648 ≤ j_w (q_ + n_) ∧ j_w (q_ + n_) ≤ 2147483647 := jb_any _
                refine jr.iast (i := z) (x := (j_w (q_ + n_))) rfl (Nat.lt_trans (kx_5 k73.2).1 (by decide)) (kx_5 k73.2).2 (by decide) (by omega) (by omega) ?_
                refine jr.aload_n rfl rfl ?_
                have k75 := kf_1_8 k_t
                refine jr.getf (i := 8) (v := .ref (t + 4)) rfl rfl (Nat.lt_trans (kx_1 k_t).1 (by decide)) (kx_1 k_t).2 (by decide) rfl rfl rfl (jval_ref rfl k75.1) ?_
                refine jr.iload_n rfl rfl ?_
                refine jr.iconst rfl ?_
                refine jr.zast (i := z) (x := 1) rfl (Nat.lt_trans (kx_4 k75.2).1 (by decide)) (kx_4 k75.2).2 (by decide) (by omega) (by omega) (j_zn (by omega)) ?_
                refine jr.aload_n rfl rfl ?_
                have k76 := kf_1_9 k_t
                refine jr.getf (i := 9) (v := .ref (t + 5)) rfl rfl (Nat.lt_trans (kx_1 k_t).1 (by decide)) (kx_1 k_t).2 (by decide) rfl rfl rfl (jval_ref rfl k76.1) ?_
                refine jr.iload_n rfl rfl ?_
                refine jr.aload_n rfl rfl ?_
                refine jr.iload_n rfl rfl ?_
                refine jr.bipush rfl (jbp _ (nlt rfl)) ?_
                have e78 : M57 3 3 = C := (hf_M57.g (show kd 3 = 18 from rfl) rfl).trans g_C
                refine jr_v rfl rfl (Or.inl rfl) rfl rfl (nlt rfl) rfl ⟨rfl, Nat.le_of_ble_eq_true rfl, Nat.le_of_ble_eq_true rfl⟩ rfl (jc.deep (c_Headers_valueOf_x (CI.u (CI.u (CI.u hC_M57 (i := 5) k_t (show (-2147483648 : Int) ≤ _ ∧ _ ≤ (2147483647 : Int) from by omega) rfl) (i := z) k73.2 (show (-2147483648 : Int) ≤ _ ∧ _ ≤ (2147483647 : Int) from by omega) rfl) (i := z) k75.2 (show (0 : Int) ≤ _ ∧ _ ≤ (1 : Int) from by omega) rfl) (show kd 3 = 18 from rfl) (by omega) (by omega) ((ju_c _ _ (kd_ne (by rw [(show kd 3 = 18 from rfl), k75.2]; decide))).trans ((ju_c _ _ (kd_ne (by rw [(show kd 3 = 18 from rfl), k73.2]; decide))).trans ((ju_i _ _ (zne (by decide))).trans e78))) (HS.fr (HS.fr hy0 (show kd 3 = 18 from rfl) hC_M hf_M57 rfl) (show kd 3 = 18 from rfl) hC_M57 (FR.o (FR.o (FR.o (FR.rfl [(1, 5), (4, 1000), (5, 1000)] M57) k_t rfl) k73.2 rfl) k75.2 rfl) rfl) (fun r77 z77 w77_0 => ?_)) (Nat.le_of_ble_eq_true rfl))
                have hv77 : 0 ≤ r77 ∧ r77 ≤ 65535 := (by have h9 := (st_v hy3).2.2; rw [← w77_0] at h9; exact h9)
                refine jr.l2i rfl ?_
                refine jr.iast (i := z) (x := r77) rfl (Nat.lt_trans (kx_8 k76.2).1 (by decide)) (kx_8 k76.2).2 (by decide) (by omega) (by omega) ?_
                refine jr.iconst rfl ?_
                exact jr.ireturn rfl rfl rfl (q _ _ (CI.u (CI.u (CI.u (CI.u hC_M57 (i := 5) k_t (show (-2147483648 : Int) ≤ _ ∧ _ ≤ (2147483647 : Int) from by omega) rfl) (i := z) k73.2 (show (-2147483648 : Int) ≤ _ ∧ _ ≤ (2147483647 : Int) from by omega) rfl) (i := z) k75.2 (show (0 : Int) ≤ _ ∧ _ ≤ (1 : Int) from by omega) rfl) (i := z) k76.2 (show (-2147483648 : Int) ≤ _ ∧ _ ≤ (2147483647 : Int) from by omega) rfl) (FR.o (FR.o (FR.o (FR.o ht_M57 k_t rfl) k73.2 rfl) k75.2 rfl) k76.2 rfl) (by omega) (by obtain ⟨hs, hb, hq, hn⟩ := hy1; have hT := hy2; exact Or.inr (Or.inr ⟨by rw [hs, hb]; omega, (fun u => by rw [hs] at u; omega), rfl, M57, Or.inl ⟨⟨by rw [hs]; omega, by rw [← hT, e38]; omega⟩, by rw [← hT]; exact w57_0⟩, by rw [hs, hb, hq, hn, ← w77_0]; rw [tsM_p (by rw [e59, e68]; first | (left; omega) | (right; omega))]⟩)))
      · refine jr.aload_n rfl rfl ?_
        refine jr.iload_n rfl rfl ?_
        refine jr.iload rfl rfl ?_
        refine jr.iload rfl rfl ?_
        refine jr_v rfl rfl (Or.inl rfl) rfl rfl (Nat.lt_trans (kx_1 k_t).1 (by decide)) (kx_1 k_t).2 ⟨rfl, Nat.le_of_ble_eq_true rfl, Nat.le_of_ble_eq_true rfl⟩ rfl (jc.deep (c_Flow_isOut_x hC_M k_t (by omega) (by omega) (by omega) (fun r79 z79 w79_0 => ?_)) (Nat.le_of_ble_eq_true rfl))
        skip
        refine jr.if_eq rfl rfl (by first | (refine rgb (by assumption) ?_; exact rfl) | omega) (fun h136 => ?_) (fun h136 => ?_)
        · refine jr.iload rfl rfl ?_
          refine jr.if_ne rfl rfl (by first | (refine rgb (by assumption) ?_; exact rfl) | omega) (fun h144 => ?_) (fun h144 => ?_)
          · refine jr.aload_n rfl rfl ?_
            refine jr.iload rfl rfl ?_
            refine jr.putf (i := 5) (x := b_) rfl rfl (Nat.lt_trans (kx_1 k_t).1 (by decide)) (kx_1 k_t).2 (by decide) rfl rfl rfl rfl rfl ?_
            refine jr.aload_n rfl rfl ?_
            have k80 := kf_1_8 k_t
            refine jr.getf (i := 8) (v := .ref (t + 4)) rfl rfl (Nat.lt_trans (kx_1 k_t).1 (by decide)) (kx_1 k_t).2 (by decide) rfl rfl rfl (jval_ref rfl k80.1) ?_
            refine jr.iload_n rfl rfl ?_
            obtain ⟨v81, e81⟩ : ∃ z_, M ((t + 4)) z = z_ := ⟨_, rfl⟩
            have b81 : 0 ≤ v81 ∧ v81 ≤ 1 := by rw [← e81]; exact (CI.r hC_M k80.2 (by decide) z)
            refine jr.zald (i := z) (x := v81) rfl (Nat.lt_trans (kx_4 k80.2).1 (by decide)) (kx_4 k80.2).2 (by decide) (by omega) (by omega) ((ju_c _ _ (kd_ne (by rw [k80.2, k_t]; decide))).trans e81) ?_
            refine jr.if_eq rfl rfl (by first | (refine rgb (by assumption) ?_; exact rfl) | omega) (fun h172 => ?_) (fun h172 => ?_)
            · refine jr.aload_n rfl rfl ?_
              have k82 := kf_1_7 k_t
              refine jr.getf (i := 7) (v := .ref (t + 3)) rfl rfl (Nat.lt_trans (kx_1 k_t).1 (by decide)) (kx_1 k_t).2 (by decide) rfl rfl rfl (jval_ref rfl k82.1) ?_
              refine jr.iload_n rfl rfl ?_
              refine jr.iload rfl rfl ?_
              refine jr.iload rfl rfl ?_
              refine jr.iadd rfl ?_
              refine jr.iw (j_w (q_ + n_)) (j_w_eq _) ?_
              have b83 : -2147483648 ≤ j_w (q_ + n_) ∧ j_w (q_ + n_) ≤ 2147483647 := jb_any _
              refine jr.iast (i := z) (x := (j_w (q_ + n_))) rfl (Nat.lt_trans (kx_5 k82.2).1 (by decide)) (kx_5 k82.2).2 (by decide) (by omega) (by omega) ?_
              refine jr.aload_n rfl rfl ?_
              have k84 := kf_1_8 k_t
              refine jr.getf (i := 8) (v := .ref (t + 4)) rfl rfl (Nat.lt_trans (kx_1 k_t).1 (by decide)) (kx_1 k_t).2 (by decide) rfl rfl rfl (jval_ref rfl k84.1) ?_
              refine jr.iload_n rfl rfl ?_
              refine jr.iconst rfl ?_
              refine jr.zast (i := z) (x := 1) rfl (Nat.lt_trans (kx_4 k84.2).1 (by decide)) (kx_4 k84.2).2 (by decide) (by omega) (by omega) (j_zn (by omega)) ?_
              refine jr.aload_n rfl rfl ?_
              have k85 := kf_1_9 k_t
              refine jr.getf (i := 9) (v := .ref (t + 5)) rfl rfl (Nat.lt_trans (kx_1 k_t).1 (by decide)) (kx_1 k_t).2 (by decide) rfl rfl rfl (jval_ref rfl k85.1) ?_
              refine jr.iload_n rfl rfl ?_
              refine jr.aload_n rfl rfl ?_
              refine jr.iload_n rfl rfl ?_
              refine jr.bipush rfl (jbp _ (nlt rfl)) ?_
              refine jr_v rfl rfl (Or.inl rfl) rfl rfl (nlt rfl) rfl ⟨rfl, Nat.le_of_ble_eq_true rfl, Nat.le_of_ble_eq_true rfl⟩ rfl (jc.deep (c_Headers_valueOf_x (CI.u (CI.u (CI.u hC_M (i := 5) k_t (show (-2147483648 : Int) ≤ _ ∧ _ ≤ (2147483647 : Int) from by omega) rfl) (i := z) k82.2 (show (-2147483648 : Int) ≤ _ ∧ _ ≤ (2147483647 : Int) from by omega) rfl) (i := z) k84.2 (show (0 : Int) ≤ _ ∧ _ ≤ (1 : Int) from by omega) rfl) (show kd 3 = 18 from rfl) (by omega) (by omega) ((ju_c _ _ (kd_ne (by rw [(show kd 3 = 18 from rfl), k84.2]; decide))).trans ((ju_c _ _ (kd_ne (by rw [(show kd 3 = 18 from rfl), k82.2]; decide))).trans ((ju_i _ _ (zne (by decide))).trans g_C))) (HS.fr hy0 (show kd 3 = 18 from rfl) hC_M (FR.o (FR.o (FR.o (FR.rfl [(1, 5), (4, 1000), (5, 1000)] M) k_t rfl) k82.2 rfl) k84.2 rfl) rfl) (fun r86 z86 w86_0 => ?_)) (Nat.le_of_ble_eq_true rfl))
              have hv86 : 0 ≤ r86 ∧ r86 ≤ 65535 := (by have h9 := (st_v hy3).2.2; rw [← w86_0] at h9; exact h9)
              refine jr.l2i rfl ?_
              refine jr.iast (i := z) (x := r86) rfl (Nat.lt_trans (kx_8 k85.2).1 (by decide)) (kx_8 k85.2).2 (by decide) (by omega) (by omega) ?_
              refine jr.iconst rfl ?_
              exact jr.ireturn rfl rfl rfl (q _ _ (CI.u (CI.u (CI.u (CI.u hC_M (i := 5) k_t (show (-2147483648 : Int) ≤ _ ∧ _ ≤ (2147483647 : Int) from by omega) rfl) (i := z) k82.2 (show (-2147483648 : Int) ≤ _ ∧ _ ≤ (2147483647 : Int) from by omega) rfl) (i := z) k84.2 (show (0 : Int) ≤ _ ∧ _ ≤ (1 : Int) from by omega) rfl) (i := z) k85.2 (show (-2147483648 : Int) ≤ _ ∧ _ ≤ (2147483647 : Int) from by omega) rfl) (FR.o (FR.o (FR.o (FR.o ht_M k_t rfl) k82.2 rfl) k84.2 rfl) k85.2 rfl) (by omega) (by obtain ⟨hs, hb, hq, hn⟩ := hy1; have hT := hy2; have hio : ioF T t z (tsQ f N C y) (tsN f N C y) = r79 := (by rw [hq, hn, ← hT, ← w79_0]); exact Or.inr (Or.inr ⟨by rw [hs, hb]; omega, (fun u => by rw [hs, hio] at u; omega), rfl, M, Or.inr ⟨(fun u => by rw [hs, ← hT] at u; omega), hT⟩, by rw [hs, hb, hq, hn, ← w86_0]; rw [tsM_p (by rw [e81]; first | (left; omega) | (right; omega))]⟩)))
            · have sx172 : (1 : Int) ≤ v81 := by omega
              clear h172
              refine jr.iload rfl rfl ?_
              refine jr.iload rfl rfl ?_
              refine jr.iadd rfl ?_
              refine jr.iw (j_w (q_ + n_)) (j_w_eq _) ?_
              have b87 : -2147483648 ≤ j_w (q_ + n_) ∧ j_w (q_ + n_) ≤ 2147483647 := jb_any _
              refine jr.aload_n rfl rfl ?_
              have k88 := kf_1_7 k_t
              refine jr.getf (i := 7) (v := .ref (t + 3)) rfl rfl (Nat.lt_trans (kx_1 k_t).1 (by decide)) (kx_1 k_t).2 (by decide) rfl rfl rfl (jval_ref rfl k88.1) ?_
              refine jr.iload_n rfl rfl ?_
              obtain ⟨v89, e89⟩ : ∃ z_, M ((t + 3)) z = z_ := ⟨_, rfl⟩
              have b89 : (-2147483648) ≤ v89 ∧ v89 ≤ 2147483647 := by rw [← e89]; exact (CI.r hC_M k88.2 (by decide) z)
              refine jr.iald (i := z) (x := v89) rfl (Nat.lt_trans (kx_5 k88.2).1 (by decide)) (kx_5 k88.2).2 (by decide) (by omega) (by omega) ((ju_c _ _ (kd_ne (by rw [k88.2, k_t]; decide))).trans e89) ?_
              refine jr.isub rfl ?_
              refine jr.iw (j_w ((j_w (q_ + n_)) - v89)) (j_w_eq _) ?_
              have b90 : -2147483648 ≤ j_w ((j_w (q_ + n_)) - v89) ∧ j_w ((j_w (q_ + n_)) - v89) ≤ 2147483647 := jb_any _
              refine jr.if_le rfl rfl (by first | (refine rgb (by assumption) ?_; exact rfl) | omega) (fun h187 => ?_) (fun h187 => ?_)
              · refine jr.aload_n rfl rfl ?_
                have k91 := kf_1_9 k_t
                refine jr.getf (i := 9) (v := .ref (t + 5)) rfl rfl (Nat.lt_trans (kx_1 k_t).1 (by decide)) (kx_1 k_t).2 (by decide) rfl rfl rfl (jval_ref rfl k91.1) ?_
                refine jr.iload_n rfl rfl ?_
                refine jr.aload_n rfl rfl ?_
                refine jr.iload_n rfl rfl ?_
                refine jr.bipush rfl (jbp _ (nlt rfl)) ?_
                refine jr_v rfl rfl (Or.inl rfl) rfl rfl (nlt rfl) rfl ⟨rfl, Nat.le_of_ble_eq_true rfl, Nat.le_of_ble_eq_true rfl⟩ rfl (jc.deep (c_Headers_valueOf_x (CI.u hC_M (i := 5) k_t (show (-2147483648 : Int) ≤ _ ∧ _ ≤ (2147483647 : Int) from by omega) rfl) (show kd 3 = 18 from rfl) (by omega) (by omega) ((ju_i _ _ (zne (by decide))).trans g_C) (HS.fr hy0 (show kd 3 = 18 from rfl) hC_M (FR.o (FR.rfl [(1, 5)] M) k_t rfl) rfl) (fun r92 z92 w92_0 => ?_)) (Nat.le_of_ble_eq_true rfl))
                have hv92 : 0 ≤ r92 ∧ r92 ≤ 65535 := (by have h9 := (st_v hy3).2.2; rw [← w92_0] at h9; exact h9)
                refine jr.l2i rfl ?_
                refine jr.iast (i := z) (x := r92) rfl (Nat.lt_trans (kx_8 k91.2).1 (by decide)) (kx_8 k91.2).2 (by decide) (by omega) (by omega) ?_
                refine jr.iconst rfl ?_
                exact jr.ireturn rfl rfl rfl (q _ _ (CI.u (CI.u hC_M (i := 5) k_t (show (-2147483648 : Int) ≤ _ ∧ _ ≤ (2147483647 : Int) from by omega) rfl) (i := z) k91.2 (show (-2147483648 : Int) ≤ _ ∧ _ ≤ (2147483647 : Int) from by omega) rfl) (FR.o (FR.o ht_M k_t rfl) k91.2 rfl) (by omega) (by obtain ⟨hs, hb, hq, hn⟩ := hy1; have hT := hy2; have hio : ioF T t z (tsQ f N C y) (tsN f N C y) = r79 := (by rw [hq, hn, ← hT, ← w79_0]); exact Or.inr (Or.inr ⟨by rw [hs, hb]; omega, (fun u => by rw [hs, hio] at u; omega), rfl, M, Or.inr ⟨(fun u => by rw [hs, ← hT] at u; omega), hT⟩, by rw [hs, hb, hq, hn, ← w92_0]; rw [tsM_n (by rw [e81, e89]; omega)]⟩)))
              · refine jr.aload_n rfl rfl ?_
                have k93 := kf_1_7 k_t
                refine jr.getf (i := 7) (v := .ref (t + 3)) rfl rfl (Nat.lt_trans (kx_1 k_t).1 (by decide)) (kx_1 k_t).2 (by decide) rfl rfl rfl (jval_ref rfl k93.1) ?_
                refine jr.iload_n rfl rfl ?_
                refine jr.iload rfl rfl ?_
                refine jr.iload rfl rfl ?_
                refine jr.iadd rfl ?_
                refine jr.iw (j_w (q_ + n_)) (j_w_eq _) ?_
                have b94 : -2147483648 ≤ j_w (q_ + n_) ∧ j_w (q_ + n_) ≤ 2147483647 := jb_any _
                refine jr.iast (i := z) (x := (j_w (q_ + n_))) rfl (Nat.lt_trans (kx_5 k93.2).1 (by decide)) (kx_5 k93.2).2 (by decide) (by omega) (by omega) ?_
                refine jr.aload_n rfl rfl ?_
                have k95 := kf_1_8 k_t
                refine jr.getf (i := 8) (v := .ref (t + 4)) rfl rfl (Nat.lt_trans (kx_1 k_t).1 (by decide)) (kx_1 k_t).2 (by decide) rfl rfl rfl (jval_ref rfl k95.1) ?_
                refine jr.iload_n rfl rfl ?_
                refine jr.iconst rfl ?_
                refine jr.zast (i := z) (x := 1) rfl (Nat.lt_trans (kx_4 k95.2).1 (by decide)) (kx_4 k95.2).2 (by decide) (by omega) (by omega) (j_zn (by omega)) ?_
                refine jr.aload_n rfl rfl ?_
                have k96 := kf_1_9 k_t
                refine jr.getf (i := 9) (v := .ref (t + 5)) rfl rfl (Nat.lt_trans (kx_1 k_t).1 (by decide)) (kx_1 k_t).2 (by decide) rfl rfl rfl (jval_ref rfl k96.1) ?_
                refine jr.iload_n rfl rfl ?_
                refine jr.aload_n rfl rfl ?_
                refine jr.iload_n rfl rfl ?_
                refine jr.bipush rfl (jbp _ (nlt rfl)) ?_
                refine jr_v rfl rfl (Or.inl rfl) rfl rfl (nlt rfl) rfl ⟨rfl, Nat.le_of_ble_eq_true rfl, Nat.le_of_ble_eq_true rfl⟩ rfl (jc.deep (c_Headers_valueOf_x (CI.u (CI.u (CI.u hC_M (i := 5) k_t (show (-2147483648 : Int) ≤ _ ∧ _ ≤ (2147483647 : Int) from by omega) rfl) (i := z) k93.2 (show (-2147483648 : Int) ≤ _ ∧ _ ≤ (2147483647 : Int) from by omega) rfl) (i := z) k95.2 (show (0 : Int) ≤ _ ∧ _ ≤ (1 : Int) from by omega) rfl) (show kd 3 = 18 from rfl) (by omega) (by omega) ((ju_c _ _ (kd_ne (by rw [(show kd 3 = 18 from rfl), k95.2]; decide))).trans ((ju_c _ _ (kd_ne (by rw [(show kd 3 = 18 from rfl), k93.2]; decide))).trans ((ju_i _ _ (zne (by decide))).trans g_C))) (HS.fr hy0 (show kd 3 = 18 from rfl) hC_M (FR.o (FR.o (FR.o (FR.rfl [(1, 5), (4, 1000), (5, 1000)] M) k_t rfl) k93.2 rfl) k95.2 rfl) rfl) (fun r97 z97 w97_0 => ?_)) (Nat.le_of_ble_eq_true rfl))
                have hv97 : 0 ≤ r97 ∧ r97 ≤ 65535 := (by have h9 := (st_v hy3).2.2; rw [← w97_0] at h9; exact h9)
                refine jr.l2i rfl ?_
                refine jr.iast (i := z) (x := r97) rfl (Nat.lt_trans (kx_8 k96.2).1 (by decide)) (kx_8 k96.2).2 (by decide) (by omega) (by omega) ?_
                refine jr.iconst rfl ?_
                exact jr.ireturn rfl rfl rfl (q _ _ (CI.u (CI.u (CI.u (CI.u hC_M (i := 5) k_t (show (-2147483648 : Int) ≤ _ ∧ _ ≤ (2147483647 : Int) from by omega) rfl) (i := z) k93.2 (show (-2147483648 : Int) ≤ _ ∧ _ ≤ (2147483647 : Int) from by omega) rfl) (i := z) k95.2 (show (0 : Int) ≤ _ ∧ _ ≤ (1 : Int) from by omega) rfl) (i := z) k96.2 (show (-2147483648 : Int) ≤ _ ∧ _ ≤ (2147483647 : Int) from by omega) rfl) (FR.o (FR.o (FR.o (FR.o ht_M k_t rfl) k93.2 rfl) k95.2 rfl) k96.2 rfl) (by omega) (by obtain ⟨hs, hb, hq, hn⟩ := hy1; have hT := hy2; have hio : ioF T t z (tsQ f N C y) (tsN f N C y) = r79 := (by rw [hq, hn, ← hT, ← w79_0]); exact Or.inr (Or.inr ⟨by rw [hs, hb]; omega, (fun u => by rw [hs, hio] at u; omega), rfl, M, Or.inr ⟨(fun u => by rw [hs, ← hT] at u; omega), hT⟩, by rw [hs, hb, hq, hn, ← w97_0]; rw [tsM_p (by rw [e81, e89]; first | (left; omega) | (right; omega))]⟩)))
          · exact absurd (by omega) h144
        · have sx136 : (1 : Int) ≤ r79 := by omega
          clear h136
          refine jr.bipush rfl (by decide) ?_
          exact jr.ireturn rfl rfl rfl (q _ _ hC_M ht_M (by first | exact rgq rfl | omega) (by obtain ⟨hs, hb, hq, hn⟩ := hy1; have hT := hy2; have hio : ioF T t z (tsQ f N C y) (tsN f N C y) = r79 := (by rw [hq, hn, ← hT, ← w79_0]); exact Or.inr (Or.inl ⟨by rw [hs, hb]; omega, (by rw [hs, hio]; omega), rfl, hT⟩)))
theorem c_Flow_takeStream_x {A : Nat → Option (Nat × (Nat → Int32))} {Q : Option Value → jm → Prop} {f : Int → Int} {N : Int} {T : jm} {M : jm} (hC_M : CI M) (ht_M : FR W_c_Flow_takeStream_x T M) {t : Nat} (k_t : kd t = 1) {y : Int} (h_y : 0 ≤ y ∧ y ≤ 11) {z : Int} (h_z : 0 ≤ z ∧ z ≤ 1) {C : Int} (g_C : M 3 3 = C) (p0 : T = M) (p1 : HS M 3 f N) (p2 : kA f N C y = 8) (q : ∀ (r : Int) (M' : jm), CI M' → FR W_c_Flow_takeStream_x T M' → (-8) ≤ r ∧ r ≤ 0 → (TSQ T M' t f N C y z r) → Q (some (.int (Int32.ofInt r))) M') : jc A 4 71 [.ref (t), .ref (3), .int (Int32.ofInt (y)), .int (Int32.ofInt (z))] M Q := by
  refine jc_of (m := xm_71) rfl (Nat.le_of_ble_eq_true rfl) rfl ?_
  have b_C : 0 ≤ C ∧ C ≤ 12 := by rw [← g_C]; exact (CI.r hC_M (show kd 3 = 18 from rfl) (by decide) 3)
  refine jr.aload_n rfl rfl ?_
  refine jr.iload_n rfl rfl ?_
  refine jr.iconst rfl ?_
  refine jr_v rfl rfl (Or.inl rfl) rfl rfl (nlt rfl) rfl ⟨rfl, Nat.le_of_ble_eq_true rfl, Nat.le_of_ble_eq_true rfl⟩ rfl (jc.deep (c_Headers_valueOf_x hC_M (show kd 3 = 18 from rfl) (by omega) (by omega) g_C p1 (fun r1 z1 w1_0 => ?_)) (Nat.le_of_ble_eq_true rfl))
  have hv1 : 0 ≤ r1 ∧ r1 ≤ 255 := (by have h9 := (st_v p2).1; rw [← w1_0] at h9; exact h9)
  refine jr.l2i rfl ?_
  refine jr.istore (ls' := [_, _, _, _, _]) rfl (nlt rfl) rfl ?_
  refine jr.iload rfl rfl ?_
  refine jr_s rfl rfl (Or.inl rfl) ⟨Nat.le_of_ble_eq_true rfl, Nat.le_of_ble_eq_true rfl⟩ rfl rfl (jc.deep (c_Flow_streamClass_x hC_M (by omega) (fun r2 z2 w2_0 => ?_)) (Nat.le_of_ble_eq_true rfl))
  refine jr.istore (ls' := [_, _, _, _, _, _]) rfl (nlt rfl) rfl ?_
  refine jr.iload rfl rfl ?_
  refine jr.iconst rfl ?_
  refine jr.icmp_ge rfl rfl (by first | (refine rgb (by assumption) ?_; exact rfl) | omega) (rgl rfl) (fun h19 => ?_) (fun h19 => ?_)
  · refine jr.iconst rfl ?_
    refine jr.istore (ls' := [_, _, _, _, _, _, _]) rfl (nlt rfl) rfl ?_
    refine jr.iload rfl rfl ?_
    refine jr.if_ne rfl rfl (by first | exact rgl rfl | omega) (fun h => absurd h (by decide)) (fun _ => ?_)
    refine jr.bipush rfl (by decide) ?_
    exact jr.ireturn rfl rfl rfl (q _ _ hC_M ht_M (by first | exact rgq rfl | omega) (by have hs : tsS f N C y = r2 := (by unfold tsS; rw [← w1_0, ← w2_0]); rw [p0]; exact Or.inl ⟨by rw [hs]; unfold tsB; rw [if_neg (by omega)], rfl, rfl⟩))
  · refine jr.aload_n rfl rfl ?_
    obtain ⟨v3, e3⟩ : ∃ z_, M t 5 = z_ := ⟨_, rfl⟩
    have b3 : (-2147483648) ≤ v3 ∧ v3 ≤ 2147483647 := by rw [← e3]; exact (CI.r hC_M k_t (by decide) 5)
    refine jr.getf (i := 5) (x := v3) (v := .int (Int32.ofInt (v3))) rfl rfl (Nat.lt_trans (kx_1 k_t).1 (by decide)) (kx_1 k_t).2 (by decide) rfl rfl e3 rfl ?_
    refine jr.iconst rfl ?_
    refine jr.icmp_lt rfl rfl (by first | (refine rgb (by assumption) ?_; exact rfl) | omega) (rgl rfl) (fun h27 => ?_) (fun h27 => ?_)
    · refine jr.iconst rfl ?_
      refine jr.istore (ls' := [_, _, _, _, _, _, _]) rfl (nlt rfl) rfl ?_
      refine jr.iload rfl rfl ?_
      refine jr.if_ne rfl rfl (by first | exact rgl rfl | omega) (fun h => absurd h (by decide)) (fun _ => ?_)
      refine jr.bipush rfl (by decide) ?_
      exact jr.ireturn rfl rfl rfl (q _ _ hC_M ht_M (by first | exact rgq rfl | omega) (by have hs : tsS f N C y = r2 := (by unfold tsS; rw [← w1_0, ← w2_0]); rw [p0]; exact Or.inl ⟨by rw [hs, e3]; unfold tsB; rw [if_neg (by omega)], rfl, rfl⟩))
    · refine jr.aload_n rfl rfl ?_
      refine jr.getf (i := 5) (x := v3) (v := .int (Int32.ofInt (v3))) rfl rfl (Nat.lt_trans (kx_1 k_t).1 (by decide)) (kx_1 k_t).2 (by decide) rfl rfl e3 rfl ?_
      refine jr.bipush rfl (jbp _ (nlt rfl)) ?_
      refine jr.icmp_gt rfl rfl (by first | (refine rgb (by assumption) ?_; exact rfl) | omega) (rgl rfl) (fun h36 => ?_) (fun h36 => ?_)
      · refine jr.iconst rfl ?_
        refine jr.istore (ls' := [_, _, _, _, _, _, _]) rfl (nlt rfl) rfl ?_
        refine jr.iload rfl rfl ?_
        refine jr.if_ne rfl rfl (by first | exact rgl rfl | omega) (fun h => absurd h (by decide)) (fun _ => ?_)
        refine jr.bipush rfl (by decide) ?_
        exact jr.ireturn rfl rfl rfl (q _ _ hC_M ht_M (by first | exact rgq rfl | omega) (by have hs : tsS f N C y = r2 := (by unfold tsS; rw [← w1_0, ← w2_0]); rw [p0]; exact Or.inl ⟨by rw [hs, e3]; unfold tsB; rw [if_neg (by omega)], rfl, rfl⟩))
      · refine jr.gst (v := .ref 1000005) rfl rfl ?_
        refine jr.bipush rfl (jbp _ (nlt rfl)) ?_
        refine jr.aload_n rfl rfl ?_
        refine jr.getf (i := 5) (x := v3) (v := .int (Int32.ofInt (v3))) rfl rfl (Nat.lt_trans (kx_1 k_t).1 (by decide)) (kx_1 k_t).2 (by decide) rfl rfl e3 rfl ?_
        refine jr.iconst rfl ?_
        refine jr.isub rfl ?_
        refine jr.imul rfl ?_
        refine jr.iconst rfl ?_
        refine jr.iload_n rfl rfl ?_
        refine jr.imul rfl ?_
        refine jr.iadd rfl ?_
        refine jr.iload rfl rfl ?_
        refine jr.iadd rfl ?_
        obtain ⟨v4, e4⟩ : ∃ z_, xcv_5 (((10 * (v3 - 1)) + (5 * z)) + r2) = z_ := ⟨_, rfl⟩
        have b4 : 0 ≤ v4 ∧ v4 ≤ 10 := by rw [← e4]; exact xcr_5 (by omega) (by omega)
        refine jr.ials (i := (((10 * (v3 - 1)) + (5 * z)) + r2)) v4 rfl (by decide) rfl (by decide) (by omega) (by omega) (by rw [← e4]; exact (Int32.ofInt_toInt _).symm) ?_
        refine jr.goto rfl rfl ?_
        refine jr.istore (ls' := [_, _, _, _, _, _, _]) rfl (nlt rfl) rfl ?_
        refine jr.iload rfl rfl ?_
        refine jr.if_ne rfl rfl (by first | (refine rgb (by assumption) ?_; exact rfl) | omega) (fun h67 => ?_) (fun h67 => ?_)
        · have sx67 : (1 : Int) ≤ v4 := by omega
          clear h67
          refine jr.aload_n rfl rfl ?_
          refine jr.iload_n rfl rfl ?_
          refine jr.iconst rfl ?_
          refine jr_v rfl rfl (Or.inl rfl) rfl rfl (nlt rfl) rfl ⟨rfl, Nat.le_of_ble_eq_true rfl, Nat.le_of_ble_eq_true rfl⟩ rfl (jc.deep (c_Headers_valueOf_x hC_M (show kd 3 = 18 from rfl) (by omega) (by omega) g_C p1 (fun r5 z5 w5_0 => ?_)) (Nat.le_of_ble_eq_true rfl))
          have hv5 : 0 ≤ r5 ∧ r5 ≤ 4294967295 := (by have h9 := (st_v p2).2.1; rw [← w5_0] at h9; exact h9)
          refine jr.l2i rfl ?_
          refine jr.iw (j_w r5) (j_w_eq _) ?_
          have b6 : -2147483648 ≤ j_w r5 ∧ j_w r5 ≤ 2147483647 := jb_any _
          refine jr.istore (ls' := [_, _, _, _, _, _, _, _]) rfl (nlt rfl) rfl ?_
          refine jr.aload_n rfl rfl ?_
          refine jr.iload_n rfl rfl ?_
          obtain ⟨v8, e8⟩ : ∃ z_, M 3 7 = z_ := ⟨_, rfl⟩
          have b8 : 0 ≤ v8 ∧ v8 ≤ 597 := by rw [← e8]; exact (CI.r hC_M (show kd 3 = 18 from rfl) (by decide) 7)
          have k7_S : kd (v8).toNat = 33 := (congrArg (fun z : Int => kd z.toNat) e8).symm.trans (CI.x hC_M (show kd 3 = 18 from rfl) 7 rfl (by decide))
          refine jr_v rfl rfl (Or.inl rfl) rfl rfl (nlt rfl) rfl ⟨rfl, Nat.le_of_ble_eq_true rfl, Nat.le_of_ble_eq_true rfl⟩ rfl (jc.deep (c_Headers_dataBehind_x hC_M (show kd 3 = 18 from rfl) (by omega) g_C e8 p1 (fun r7 z7 w7_0 => ?_)) (Nat.le_of_ble_eq_true rfl))
          refine jr.iload rfl rfl ?_
          refine jr.iconst rfl ?_
          refine jr.iand rfl ?_
          have b9 : j_and r1 2 = r1 / 2 % 2 * 2 ∧ 0 ≤ j_and r1 2 ∧ j_and r1 2 ≤ 16 := ⟨(jbt (by omega)).2.1, by rw [(jbt (by omega)).2.1]; omega⟩
          generalize j_and r1 2 = v9 at b9 ⊢
          refine jr.if_eq rfl rfl (by first | (refine rgb (by assumption) ?_; exact rfl) | omega) (fun h91 => ?_) (fun h91 => ?_)
          · refine jr.iconst rfl ?_
            refine jr.iadd rfl ?_
            refine jr.iload rfl rfl ?_
            refine jr.iconst rfl ?_
            refine jr.iand rfl ?_
            have b10 : j_and r1 1 = r1 % 2 ∧ 0 ≤ j_and r1 1 ∧ j_and r1 1 ≤ 16 := ⟨(jbt (by omega)).1, by rw [(jbt (by omega)).1]; omega⟩
            generalize j_and r1 1 = v10 at b10 ⊢
            refine jr.if_eq rfl rfl (by first | (refine rgb (by assumption) ?_; exact rfl) | omega) (fun h104 => ?_) (fun h104 => ?_)
            · refine jr.iconst rfl ?_
              refine jr.iadd rfl ?_
              refine jr.istore (ls' := [_, _, _, _, _, _, _, _, _]) rfl (nlt rfl) rfl ?_
              refine jr.pick (ls := [_, _, _, _, _, _, _, _, _]) [7, 8, 4, 3, 2, 1, 0, 5, 6] rfl rfl ?_
              exact c_Flow_takeStream_x_L115 k_t q 0 M r1 r2 v4 (j_w r5) ((r7 + 0) + 0) hC_M ht_M (by omega) (by omega) (by omega) (by omega) (by omega) (by omega) (by omega) g_C p1 ⟨(by unfold tsS; rw [← w1_0, ← w2_0]), (by rw [p0, e3]; unfold tsB; rw [if_pos (by omega), e4]), (by unfold tsQ; rw [← w5_0]), (by unfold tsN; rw [← w7_0, ← w1_0]; omega)⟩ p0.symm p2 (by omega)
            · have sx104 : (1 : Int) ≤ v10 := by omega
              clear h104
              refine jr.iconst rfl ?_
              refine jr.goto rfl rfl ?_
              refine jr.iadd rfl ?_
              refine jr.istore (ls' := [_, _, _, _, _, _, _, _, _]) rfl (nlt rfl) rfl ?_
              refine jr.pick (ls := [_, _, _, _, _, _, _, _, _]) [7, 8, 4, 3, 2, 1, 0, 5, 6] rfl rfl ?_
              exact c_Flow_takeStream_x_L115 k_t q 0 M r1 r2 v4 (j_w r5) ((r7 + 0) + 1) hC_M ht_M (by omega) (by omega) (by omega) (by omega) (by omega) (by omega) (by omega) g_C p1 ⟨(by unfold tsS; rw [← w1_0, ← w2_0]), (by rw [p0, e3]; unfold tsB; rw [if_pos (by omega), e4]), (by unfold tsQ; rw [← w5_0]), (by unfold tsN; rw [← w7_0, ← w1_0]; omega)⟩ p0.symm p2 (by omega)
          · have sx91 : (1 : Int) ≤ v9 := by omega
            clear h91
            refine jr.iconst rfl ?_
            refine jr.goto rfl rfl ?_
            refine jr.iadd rfl ?_
            refine jr.iload rfl rfl ?_
            refine jr.iconst rfl ?_
            refine jr.iand rfl ?_
            have b11 : j_and r1 1 = r1 % 2 ∧ 0 ≤ j_and r1 1 ∧ j_and r1 1 ≤ 16 := ⟨(jbt (by omega)).1, by rw [(jbt (by omega)).1]; omega⟩
            generalize j_and r1 1 = v11 at b11 ⊢
            refine jr.if_eq rfl rfl (by first | (refine rgb (by assumption) ?_; exact rfl) | omega) (fun h104 => ?_) (fun h104 => ?_)
            · refine jr.iconst rfl ?_
              refine jr.iadd rfl ?_
              refine jr.istore (ls' := [_, _, _, _, _, _, _, _, _]) rfl (nlt rfl) rfl ?_
              refine jr.pick (ls := [_, _, _, _, _, _, _, _, _]) [7, 8, 4, 3, 2, 1, 0, 5, 6] rfl rfl ?_
              exact c_Flow_takeStream_x_L115 k_t q 0 M r1 r2 v4 (j_w r5) ((r7 + 1) + 0) hC_M ht_M (by omega) (by omega) (by omega) (by omega) (by omega) (by omega) (by omega) g_C p1 ⟨(by unfold tsS; rw [← w1_0, ← w2_0]), (by rw [p0, e3]; unfold tsB; rw [if_pos (by omega), e4]), (by unfold tsQ; rw [← w5_0]), (by unfold tsN; rw [← w7_0, ← w1_0]; omega)⟩ p0.symm p2 (by omega)
            · have sx104 : (1 : Int) ≤ v11 := by omega
              clear h104
              refine jr.iconst rfl ?_
              refine jr.goto rfl rfl ?_
              refine jr.iadd rfl ?_
              refine jr.istore (ls' := [_, _, _, _, _, _, _, _, _]) rfl (nlt rfl) rfl ?_
              refine jr.pick (ls := [_, _, _, _, _, _, _, _, _]) [7, 8, 4, 3, 2, 1, 0, 5, 6] rfl rfl ?_
              exact c_Flow_takeStream_x_L115 k_t q 0 M r1 r2 v4 (j_w r5) ((r7 + 1) + 1) hC_M ht_M (by omega) (by omega) (by omega) (by omega) (by omega) (by omega) (by omega) g_C p1 ⟨(by unfold tsS; rw [← w1_0, ← w2_0]), (by rw [p0, e3]; unfold tsB; rw [if_pos (by omega), e4]), (by unfold tsQ; rw [← w5_0]), (by unfold tsN; rw [← w7_0, ← w1_0]; omega)⟩ p0.symm p2 (by omega)
        · refine jr.bipush rfl (by decide) ?_
          exact jr.ireturn rfl rfl rfl (q _ _ hC_M ht_M (by first | exact rgq rfl | omega) (by have hs : tsS f N C y = r2 := (by unfold tsS; rw [← w1_0, ← w2_0]); rw [p0]; exact Or.inl ⟨by rw [hs, e3]; unfold tsB; rw [if_pos (by omega), e4]; omega, rfl, rfl⟩))
noncomputable def tiM (M : jm) (t : Nat) (z u N : Int) : jm := ju (ju (ju (ju M (t + 6) z (jl_w (M (t + 6) z + 1))) (t + 7) z (jl_w (M (t + 7) z + N))) t 12 (if M t 12 ≠ 0 ∨ z = 1 then 1 else 0)) t 6 (u + lvf (M t 2) (M t 5))
theorem tiM_e {M : jm} {t : Nat} {z u N a b c d : Int} (ha : a = jl_w (M (t + 6) z + 1)) (hb : b = jl_w (M (t + 7) z + N)) (hc : c = if M t 12 ≠ 0 ∨ z = 1 then 1 else 0) (hd : d = u + lvf (M t 2) (M t 5)) : ju (ju (ju (ju M (t + 6) z a) (t + 7) z b) t 12 c) t 6 d = tiM M t z u N := by
  subst ha hb hc hd
  rfl
noncomputable def TIQ (T M : jm) (t : Nat) (f : Int → Int) (N C y z u r : Int) : Prop := (T t 2 = 6 ∧ ∃ (B : jm) (q : Int), TSQ T B t f N C y z q ∧ ((q ≠ 0 ∧ r = q ∧ M = B) ∨ (q = 0 ∧ r = 0 ∧ M = tiM B t z u N))) ∨ (T t 2 ≠ 6 ∧ r = 0 ∧ M = tiM (if T t 2 = 17 ∧ z = 1 then ju T t 5 1 else T) t z u N)
noncomputable def W_c_Flow_takeIn_x : List (Nat × Nat) := [(1, 5), (1, 6), (1, 12), (3, 1000), (4, 1000), (5, 1000), (6, 1000), (8, 1000)]
theorem c_Flow_takeIn_x {A : Nat → Option (Nat × (Nat → Int32))} {Q : Option Value → jm → Prop} {f : Int → Int} {N : Int} {T : jm} {M : jm} (hC_M : CI M) (ht_M : FR W_c_Flow_takeIn_x T M) {t : Nat} (k_t : kd t = 1) {y : Int} (h_y : 0 ≤ y ∧ y ≤ 11) {z : Int} (h_z : 0 ≤ z ∧ z ≤ 1) {u : Int} (h_u : 0 ≤ u ∧ u ≤ 2000000000) {C : Int} (g_C : M 3 3 = C) {S : Int} (g_S : M 3 7 = S) {L : Int} (g_L : M ((S.toNat)) 1 = L) (p0 : T = M) (p1 : HS M 3 f N) (p2 : M t 2 ≠ 6 ∨ kA f N C y = 8) (q : ∀ (r : Int) (M' : jm), CI M' → FR W_c_Flow_takeIn_x T M' → (-8) ≤ r ∧ r ≤ 0 → (TIQ T M' t f N C y z u r) → Q (some (.int (Int32.ofInt r))) M') : jc A 5 61 [.ref (t), .ref (3), .int (Int32.ofInt (y)), .int (Int32.ofInt (z)), .int (Int32.ofInt (u))] M Q := by
  have hN : L = N := (by have h9 := p1.2.1; rw [g_S, g_L] at h9; exact h9)
  refine jc_of (m := xm_61) rfl (Nat.le_of_ble_eq_true rfl) rfl ?_
  have b_C : 0 ≤ C ∧ C ≤ 12 := by rw [← g_C]; exact (CI.r hC_M (show kd 3 = 18 from rfl) (by decide) 3)
  have k_S : kd S.toNat = 33 := (congrArg (fun z : Int => kd z.toNat) g_S).symm.trans (CI.x hC_M (show kd 3 = 18 from rfl) 7 rfl (by decide))
  have b_L : (-1) ≤ L ∧ L ≤ 400 := by rw [← g_L]; exact (CI.r hC_M k_S (by decide) 1)
  refine jr.aload_n rfl rfl ?_
  obtain ⟨v1, e1⟩ : ∃ z_, M t 2 = z_ := ⟨_, rfl⟩
  have b1 : (-2147483648) ≤ v1 ∧ v1 ≤ 2147483647 := by rw [← e1]; exact (CI.r hC_M k_t (by decide) 2)
  refine jr.getf (i := 2) (x := v1) (v := .int (Int32.ofInt (v1))) rfl rfl (Nat.lt_trans (kx_1 k_t).1 (by decide)) (kx_1 k_t).2 (by decide) rfl rfl e1 rfl ?_
  refine jr.bipush rfl (jbp _ (nlt rfl)) ?_
  refine jr.icmp_ne rfl rfl (by first | (refine rgb (by assumption) ?_; exact rfl) | omega) (rgl rfl) (fun h6 => ?_) (fun h6 => ?_)
  · refine jr.aload_n rfl rfl ?_
    refine jr.getf (i := 2) (x := v1) (v := .int (Int32.ofInt (v1))) rfl rfl (Nat.lt_trans (kx_1 k_t).1 (by decide)) (kx_1 k_t).2 (by decide) rfl rfl e1 rfl ?_
    refine jr.bipush rfl (jbp _ (nlt rfl)) ?_
    refine jr.icmp_ne rfl rfl (by first | (refine rgb (by assumption) ?_; exact rfl) | omega) (rgl rfl) (fun h35 => ?_) (fun h35 => ?_)
    · refine jr.aload_n rfl rfl ?_
      have k2 := kf_1_10 k_t
      refine jr.getf (i := 10) (v := .ref (t + 6)) rfl rfl (Nat.lt_trans (kx_1 k_t).1 (by decide)) (kx_1 k_t).2 (by decide) rfl rfl rfl (jval_ref rfl k2.1) ?_
      refine jr.iload_n rfl rfl ?_
      refine jr.dup2 rfl ⟨rfl, rfl⟩ ?_
      obtain ⟨v3, e3⟩ : ∃ z_, M ((t + 6)) z = z_ := ⟨_, rfl⟩
      have b3 : (-9223372036854775808) ≤ v3 ∧ v3 ≤ 9223372036854775807 := by rw [← e3]; exact (CI.r hC_M k2.2 (by decide) z)
      refine jr.lald (i := z) (x := v3) rfl (Nat.lt_trans (kx_6 k2.2).1 (by decide)) (kx_6 k2.2).2 (by decide) (by omega) (by omega) e3 ?_
      refine jr.lconst (x := 1) rfl (by decide) ?_
      refine jr.ladd rfl ?_
      refine jr.lw (jl_w (v3 + 1)) (jl_w_eq _) ?_
      have b4 : -9223372036854775808 ≤ jl_w (v3 + 1) ∧ jl_w (v3 + 1) ≤ 9223372036854775807 := jbl_any _
      refine jr.last (i := z) (x := (jl_w (v3 + 1))) rfl (Nat.lt_trans (kx_6 k2.2).1 (by decide)) (kx_6 k2.2).2 (by decide) (by omega) (by omega) ?_
      refine jr.aload_n rfl rfl ?_
      have k5 := kf_1_11 k_t
      refine jr.getf (i := 11) (v := .ref (t + 7)) rfl rfl (Nat.lt_trans (kx_1 k_t).1 (by decide)) (kx_1 k_t).2 (by decide) rfl rfl rfl (jval_ref rfl k5.1) ?_
      refine jr.iload_n rfl rfl ?_
      refine jr.dup2 rfl ⟨rfl, rfl⟩ ?_
      obtain ⟨v6, e6⟩ : ∃ z_, M ((t + 7)) z = z_ := ⟨_, rfl⟩
      have b6 : (-9223372036854775808) ≤ v6 ∧ v6 ≤ 9223372036854775807 := by rw [← e6]; exact (CI.r hC_M k5.2 (by decide) z)
      refine jr.lald (i := z) (x := v6) rfl (Nat.lt_trans (kx_3 k5.2).1 (by decide)) (kx_3 k5.2).2 (by decide) (by omega) (by omega) ((ju_c _ _ (kd_ne (by rw [k5.2, k2.2]; decide))).trans e6) ?_
      refine jr.aload_n rfl rfl ?_
      refine jr.getf (i := 7) (x := S) (v := .ref (S.toNat)) rfl rfl (nlt rfl) rfl (nlt rfl) rfl rfl ((ju_c _ _ (kd_ne (by rw [(show kd 3 = 18 from rfl), k2.2]; decide))).trans g_S) rfl ?_
      refine jr.getf (i := 1) (x := L) (v := .int (Int32.ofInt (L))) rfl rfl (Nat.lt_trans (kx_33 k_S).1 (by decide)) (kx_33 k_S).2 (by decide) rfl rfl ((ju_c _ _ (kd_ne (by rw [k_S, k2.2]; decide))).trans g_L) rfl ?_
      refine jr.i2l rfl (by omega) ?_
      refine jr.ladd rfl ?_
      refine jr.lw (jl_w (v6 + L)) (jl_w_eq _) ?_
      have b8 : -9223372036854775808 ≤ jl_w (v6 + L) ∧ jl_w (v6 + L) ≤ 9223372036854775807 := jbl_any _
      refine jr.last (i := z) (x := (jl_w (v6 + L))) rfl (Nat.lt_trans (kx_3 k5.2).1 (by decide)) (kx_3 k5.2).2 (by decide) (by omega) (by omega) ?_
      refine jr.aload_n rfl rfl ?_
      refine jr.aload_n rfl rfl ?_
      obtain ⟨v9, e9⟩ : ∃ z_, M t 12 = z_ := ⟨_, rfl⟩
      have b9 : 0 ≤ v9 ∧ v9 ≤ 1 := by rw [← e9]; exact (CI.r hC_M k_t (by decide) 12)
      refine jr.getf (i := 12) (x := v9) (v := .int (Int32.ofInt (v9))) rfl rfl (Nat.lt_trans (kx_1 k_t).1 (by decide)) (kx_1 k_t).2 (by decide) rfl rfl ((ju_c _ _ (kd_ne (by rw [k_t, k5.2]; decide))).trans ((ju_c _ _ (kd_ne (by rw [k_t, k2.2]; decide))).trans e9)) rfl ?_
      refine jr.if_ne rfl rfl (by first | (refine rgb (by assumption) ?_; exact rfl) | omega) (fun h80 => ?_) (fun h80 => ?_)
      · have sx80 : (1 : Int) ≤ v9 := by omega
        clear h80
        refine jr.iconst rfl ?_
        refine jr.goto rfl rfl ?_
        refine jr.putf (i := 12) (x := 1) rfl rfl (Nat.lt_trans (kx_1 k_t).1 (by decide)) (kx_1 k_t).2 (by decide) rfl rfl rfl rfl rfl ?_
        refine jr.aload_n rfl rfl ?_
        refine jr.iload rfl rfl ?_
        refine jr.aload_n rfl rfl ?_
        obtain ⟨v11, e11⟩ : ∃ z_, M t 5 = z_ := ⟨_, rfl⟩
        have b11 : (-2147483648) ≤ v11 ∧ v11 ≤ 2147483647 := by rw [← e11]; exact (CI.r hC_M k_t (by decide) 5)
        refine jr_v rfl rfl (Or.inl rfl) rfl rfl (Nat.lt_trans (kx_1 k_t).1 (by decide)) (kx_1 k_t).2 ⟨rfl, Nat.le_of_ble_eq_true rfl, Nat.le_of_ble_eq_true rfl⟩ rfl (jc.deep (c_Flow_lifeNow_x (CI.u (CI.u (CI.u hC_M (i := z) k2.2 (show (-9223372036854775808 : Int) ≤ _ ∧ _ ≤ (9223372036854775807 : Int) from by omega) rfl) (i := z) k5.2 (show (-9223372036854775808 : Int) ≤ _ ∧ _ ≤ (9223372036854775807 : Int) from by omega) rfl) (i := 12) k_t (show (0 : Int) ≤ _ ∧ _ ≤ (1 : Int) from by omega) rfl) k_t ((ju_i _ _ (zne (by decide))).trans ((ju_c _ _ (kd_ne (by rw [k_t, k5.2]; decide))).trans ((ju_c _ _ (kd_ne (by rw [k_t, k2.2]; decide))).trans e1))) ((ju_i _ _ (zne (by decide))).trans ((ju_c _ _ (kd_ne (by rw [k_t, k5.2]; decide))).trans ((ju_c _ _ (kd_ne (by rw [k_t, k2.2]; decide))).trans e11))) (fun r10 z10 w10_0 => ?_)) (Nat.le_of_ble_eq_true rfl))
        refine jr.iadd rfl ?_
        refine jr.putf (i := 6) (x := (u + r10)) rfl rfl (Nat.lt_trans (kx_1 k_t).1 (by decide)) (kx_1 k_t).2 (by decide) rfl rfl rfl rfl rfl ?_
        refine jr.iconst rfl ?_
        exact jr.ireturn rfl rfl rfl (q _ _ (CI.u (CI.u (CI.u (CI.u hC_M (i := z) k2.2 (show (-9223372036854775808 : Int) ≤ _ ∧ _ ≤ (9223372036854775807 : Int) from by omega) rfl) (i := z) k5.2 (show (-9223372036854775808 : Int) ≤ _ ∧ _ ≤ (9223372036854775807 : Int) from by omega) rfl) (i := 12) k_t (show (0 : Int) ≤ _ ∧ _ ≤ (1 : Int) from by omega) rfl) (i := 6) k_t (show (-2147483648 : Int) ≤ _ ∧ _ ≤ (2147483647 : Int) from by omega) rfl) (FR.o (FR.o (FR.o (FR.o ht_M k2.2 rfl) k5.2 rfl) k_t rfl) k_t rfl) (by omega) (Or.inr ⟨by rw [p0, e1]; omega, rfl, by rw [p0, if_neg (by rw [e1]; omega)]; exact (tiM_e (by rw [show M ((t + 6)) z = v3 from e3]) (by rw [show M ((t + 7)) z = v6 from e6, ← hN]) (by rw [show M t 12 = v9 from e9]; first | (rw [if_pos (by omega)]) | (rw [if_neg (by omega)])) (by rw [show M t 2 = v1 from e1, show M t 5 = v11 from e11, ← w10_0]))⟩))
      · refine jr.iload_n rfl rfl ?_
        refine jr.iconst rfl ?_
        refine jr.icmp_ne rfl rfl (by first | (refine rgb (by assumption) ?_; exact rfl) | omega) (rgl rfl) (fun h85 => ?_) (fun h85 => ?_)
        · have sx85 : z ≤ (0 : Int) := by omega
          clear h85
          refine jr.iconst rfl ?_
          refine jr.putf (i := 12) (x := 0) rfl rfl (Nat.lt_trans (kx_1 k_t).1 (by decide)) (kx_1 k_t).2 (by decide) rfl rfl rfl rfl rfl ?_
          refine jr.aload_n rfl rfl ?_
          refine jr.iload rfl rfl ?_
          refine jr.aload_n rfl rfl ?_
          obtain ⟨v13, e13⟩ : ∃ z_, M t 5 = z_ := ⟨_, rfl⟩
          have b13 : (-2147483648) ≤ v13 ∧ v13 ≤ 2147483647 := by rw [← e13]; exact (CI.r hC_M k_t (by decide) 5)
          refine jr_v rfl rfl (Or.inl rfl) rfl rfl (Nat.lt_trans (kx_1 k_t).1 (by decide)) (kx_1 k_t).2 ⟨rfl, Nat.le_of_ble_eq_true rfl, Nat.le_of_ble_eq_true rfl⟩ rfl (jc.deep (c_Flow_lifeNow_x (CI.u (CI.u (CI.u hC_M (i := z) k2.2 (show (-9223372036854775808 : Int) ≤ _ ∧ _ ≤ (9223372036854775807 : Int) from by omega) rfl) (i := z) k5.2 (show (-9223372036854775808 : Int) ≤ _ ∧ _ ≤ (9223372036854775807 : Int) from by omega) rfl) (i := 12) k_t (show (0 : Int) ≤ _ ∧ _ ≤ (1 : Int) from by omega) rfl) k_t ((ju_i _ _ (zne (by decide))).trans ((ju_c _ _ (kd_ne (by rw [k_t, k5.2]; decide))).trans ((ju_c _ _ (kd_ne (by rw [k_t, k2.2]; decide))).trans e1))) ((ju_i _ _ (zne (by decide))).trans ((ju_c _ _ (kd_ne (by rw [k_t, k5.2]; decide))).trans ((ju_c _ _ (kd_ne (by rw [k_t, k2.2]; decide))).trans e13))) (fun r12 z12 w12_0 => ?_)) (Nat.le_of_ble_eq_true rfl))
          refine jr.iadd rfl ?_
          refine jr.putf (i := 6) (x := (u + r12)) rfl rfl (Nat.lt_trans (kx_1 k_t).1 (by decide)) (kx_1 k_t).2 (by decide) rfl rfl rfl rfl rfl ?_
          refine jr.iconst rfl ?_
          exact jr.ireturn rfl rfl rfl (q _ _ (CI.u (CI.u (CI.u (CI.u hC_M (i := z) k2.2 (show (-9223372036854775808 : Int) ≤ _ ∧ _ ≤ (9223372036854775807 : Int) from by omega) rfl) (i := z) k5.2 (show (-9223372036854775808 : Int) ≤ _ ∧ _ ≤ (9223372036854775807 : Int) from by omega) rfl) (i := 12) k_t (show (0 : Int) ≤ _ ∧ _ ≤ (1 : Int) from by omega) rfl) (i := 6) k_t (show (-2147483648 : Int) ≤ _ ∧ _ ≤ (2147483647 : Int) from by omega) rfl) (FR.o (FR.o (FR.o (FR.o ht_M k2.2 rfl) k5.2 rfl) k_t rfl) k_t rfl) (by omega) (Or.inr ⟨by rw [p0, e1]; omega, rfl, by rw [p0, if_neg (by rw [e1]; omega)]; exact (tiM_e (by rw [show M ((t + 6)) z = v3 from e3]) (by rw [show M ((t + 7)) z = v6 from e6, ← hN]) (by rw [show M t 12 = v9 from e9]; first | (rw [if_pos (by omega)]) | (rw [if_neg (by omega)])) (by rw [show M t 2 = v1 from e1, show M t 5 = v13 from e13, ← w12_0]))⟩))
        · refine jr.iconst rfl ?_
          refine jr.goto rfl rfl ?_
          refine jr.putf (i := 12) (x := 1) rfl rfl (Nat.lt_trans (kx_1 k_t).1 (by decide)) (kx_1 k_t).2 (by decide) rfl rfl rfl rfl rfl ?_
          refine jr.aload_n rfl rfl ?_
          refine jr.iload rfl rfl ?_
          refine jr.aload_n rfl rfl ?_
          obtain ⟨v15, e15⟩ : ∃ z_, M t 5 = z_ := ⟨_, rfl⟩
          have b15 : (-2147483648) ≤ v15 ∧ v15 ≤ 2147483647 := by rw [← e15]; exact (CI.r hC_M k_t (by decide) 5)
          refine jr_v rfl rfl (Or.inl rfl) rfl rfl (Nat.lt_trans (kx_1 k_t).1 (by decide)) (kx_1 k_t).2 ⟨rfl, Nat.le_of_ble_eq_true rfl, Nat.le_of_ble_eq_true rfl⟩ rfl (jc.deep (c_Flow_lifeNow_x (CI.u (CI.u (CI.u hC_M (i := z) k2.2 (show (-9223372036854775808 : Int) ≤ _ ∧ _ ≤ (9223372036854775807 : Int) from by omega) rfl) (i := z) k5.2 (show (-9223372036854775808 : Int) ≤ _ ∧ _ ≤ (9223372036854775807 : Int) from by omega) rfl) (i := 12) k_t (show (0 : Int) ≤ _ ∧ _ ≤ (1 : Int) from by omega) rfl) k_t ((ju_i _ _ (zne (by decide))).trans ((ju_c _ _ (kd_ne (by rw [k_t, k5.2]; decide))).trans ((ju_c _ _ (kd_ne (by rw [k_t, k2.2]; decide))).trans e1))) ((ju_i _ _ (zne (by decide))).trans ((ju_c _ _ (kd_ne (by rw [k_t, k5.2]; decide))).trans ((ju_c _ _ (kd_ne (by rw [k_t, k2.2]; decide))).trans e15))) (fun r14 z14 w14_0 => ?_)) (Nat.le_of_ble_eq_true rfl))
          refine jr.iadd rfl ?_
          refine jr.putf (i := 6) (x := (u + r14)) rfl rfl (Nat.lt_trans (kx_1 k_t).1 (by decide)) (kx_1 k_t).2 (by decide) rfl rfl rfl rfl rfl ?_
          refine jr.iconst rfl ?_
          exact jr.ireturn rfl rfl rfl (q _ _ (CI.u (CI.u (CI.u (CI.u hC_M (i := z) k2.2 (show (-9223372036854775808 : Int) ≤ _ ∧ _ ≤ (9223372036854775807 : Int) from by omega) rfl) (i := z) k5.2 (show (-9223372036854775808 : Int) ≤ _ ∧ _ ≤ (9223372036854775807 : Int) from by omega) rfl) (i := 12) k_t (show (0 : Int) ≤ _ ∧ _ ≤ (1 : Int) from by omega) rfl) (i := 6) k_t (show (-2147483648 : Int) ≤ _ ∧ _ ≤ (2147483647 : Int) from by omega) rfl) (FR.o (FR.o (FR.o (FR.o ht_M k2.2 rfl) k5.2 rfl) k_t rfl) k_t rfl) (by omega) (Or.inr ⟨by rw [p0, e1]; omega, rfl, by rw [p0, if_neg (by rw [e1]; omega)]; exact (tiM_e (by rw [show M ((t + 6)) z = v3 from e3]) (by rw [show M ((t + 7)) z = v6 from e6, ← hN]) (by rw [show M t 12 = v9 from e9]; first | (rw [if_pos (by omega)]) | (rw [if_neg (by omega)])) (by rw [show M t 2 = v1 from e1, show M t 5 = v15 from e15, ← w14_0]))⟩))
    · refine jr.iload_n rfl rfl ?_
      refine jr.iconst rfl ?_
      refine jr.icmp_ne rfl rfl (by first | (refine rgb (by assumption) ?_; exact rfl) | omega) (rgl rfl) (fun h40 => ?_) (fun h40 => ?_)
      · have sx40 : z ≤ (0 : Int) := by omega
        clear h40
        refine jr.aload_n rfl rfl ?_
        have k16 := kf_1_10 k_t
        refine jr.getf (i := 10) (v := .ref (t + 6)) rfl rfl (Nat.lt_trans (kx_1 k_t).1 (by decide)) (kx_1 k_t).2 (by decide) rfl rfl rfl (jval_ref rfl k16.1) ?_
        refine jr.iload_n rfl rfl ?_
        refine jr.dup2 rfl ⟨rfl, rfl⟩ ?_
        obtain ⟨v17, e17⟩ : ∃ z_, M ((t + 6)) z = z_ := ⟨_, rfl⟩
        have b17 : (-9223372036854775808) ≤ v17 ∧ v17 ≤ 9223372036854775807 := by rw [← e17]; exact (CI.r hC_M k16.2 (by decide) z)
        refine jr.lald (i := z) (x := v17) rfl (Nat.lt_trans (kx_6 k16.2).1 (by decide)) (kx_6 k16.2).2 (by decide) (by omega) (by omega) e17 ?_
        refine jr.lconst (x := 1) rfl (by decide) ?_
        refine jr.ladd rfl ?_
        refine jr.lw (jl_w (v17 + 1)) (jl_w_eq _) ?_
        have b18 : -9223372036854775808 ≤ jl_w (v17 + 1) ∧ jl_w (v17 + 1) ≤ 9223372036854775807 := jbl_any _
        refine jr.last (i := z) (x := (jl_w (v17 + 1))) rfl (Nat.lt_trans (kx_6 k16.2).1 (by decide)) (kx_6 k16.2).2 (by decide) (by omega) (by omega) ?_
        refine jr.aload_n rfl rfl ?_
        have k19 := kf_1_11 k_t
        refine jr.getf (i := 11) (v := .ref (t + 7)) rfl rfl (Nat.lt_trans (kx_1 k_t).1 (by decide)) (kx_1 k_t).2 (by decide) rfl rfl rfl (jval_ref rfl k19.1) ?_
        refine jr.iload_n rfl rfl ?_
        refine jr.dup2 rfl ⟨rfl, rfl⟩ ?_
        obtain ⟨v20, e20⟩ : ∃ z_, M ((t + 7)) z = z_ := ⟨_, rfl⟩
        have b20 : (-9223372036854775808) ≤ v20 ∧ v20 ≤ 9223372036854775807 := by rw [← e20]; exact (CI.r hC_M k19.2 (by decide) z)
        refine jr.lald (i := z) (x := v20) rfl (Nat.lt_trans (kx_3 k19.2).1 (by decide)) (kx_3 k19.2).2 (by decide) (by omega) (by omega) ((ju_c _ _ (kd_ne (by rw [k19.2, k16.2]; decide))).trans e20) ?_
        refine jr.aload_n rfl rfl ?_
        refine jr.getf (i := 7) (x := S) (v := .ref (S.toNat)) rfl rfl (nlt rfl) rfl (nlt rfl) rfl rfl ((ju_c _ _ (kd_ne (by rw [(show kd 3 = 18 from rfl), k16.2]; decide))).trans g_S) rfl ?_
        refine jr.getf (i := 1) (x := L) (v := .int (Int32.ofInt (L))) rfl rfl (Nat.lt_trans (kx_33 k_S).1 (by decide)) (kx_33 k_S).2 (by decide) rfl rfl ((ju_c _ _ (kd_ne (by rw [k_S, k16.2]; decide))).trans g_L) rfl ?_
        refine jr.i2l rfl (by omega) ?_
        refine jr.ladd rfl ?_
        refine jr.lw (jl_w (v20 + L)) (jl_w_eq _) ?_
        have b22 : -9223372036854775808 ≤ jl_w (v20 + L) ∧ jl_w (v20 + L) ≤ 9223372036854775807 := jbl_any _
        refine jr.last (i := z) (x := (jl_w (v20 + L))) rfl (Nat.lt_trans (kx_3 k19.2).1 (by decide)) (kx_3 k19.2).2 (by decide) (by omega) (by omega) ?_
        refine jr.aload_n rfl rfl ?_
        refine jr.aload_n rfl rfl ?_
        obtain ⟨v23, e23⟩ : ∃ z_, M t 12 = z_ := ⟨_, rfl⟩
        have b23 : 0 ≤ v23 ∧ v23 ≤ 1 := by rw [← e23]; exact (CI.r hC_M k_t (by decide) 12)
        refine jr.getf (i := 12) (x := v23) (v := .int (Int32.ofInt (v23))) rfl rfl (Nat.lt_trans (kx_1 k_t).1 (by decide)) (kx_1 k_t).2 (by decide) rfl rfl ((ju_c _ _ (kd_ne (by rw [k_t, k19.2]; decide))).trans ((ju_c _ _ (kd_ne (by rw [k_t, k16.2]; decide))).trans e23)) rfl ?_
        refine jr.if_ne rfl rfl (by first | (refine rgb (by assumption) ?_; exact rfl) | omega) (fun h80 => ?_) (fun h80 => ?_)
        · have sx80 : (1 : Int) ≤ v23 := by omega
          clear h80
          refine jr.iconst rfl ?_
          refine jr.goto rfl rfl ?_
          refine jr.putf (i := 12) (x := 1) rfl rfl (Nat.lt_trans (kx_1 k_t).1 (by decide)) (kx_1 k_t).2 (by decide) rfl rfl rfl rfl rfl ?_
          refine jr.aload_n rfl rfl ?_
          refine jr.iload rfl rfl ?_
          refine jr.aload_n rfl rfl ?_
          obtain ⟨v25, e25⟩ : ∃ z_, M t 5 = z_ := ⟨_, rfl⟩
          have b25 : (-2147483648) ≤ v25 ∧ v25 ≤ 2147483647 := by rw [← e25]; exact (CI.r hC_M k_t (by decide) 5)
          refine jr_v rfl rfl (Or.inl rfl) rfl rfl (Nat.lt_trans (kx_1 k_t).1 (by decide)) (kx_1 k_t).2 ⟨rfl, Nat.le_of_ble_eq_true rfl, Nat.le_of_ble_eq_true rfl⟩ rfl (jc.deep (c_Flow_lifeNow_x (CI.u (CI.u (CI.u hC_M (i := z) k16.2 (show (-9223372036854775808 : Int) ≤ _ ∧ _ ≤ (9223372036854775807 : Int) from by omega) rfl) (i := z) k19.2 (show (-9223372036854775808 : Int) ≤ _ ∧ _ ≤ (9223372036854775807 : Int) from by omega) rfl) (i := 12) k_t (show (0 : Int) ≤ _ ∧ _ ≤ (1 : Int) from by omega) rfl) k_t ((ju_i _ _ (zne (by decide))).trans ((ju_c _ _ (kd_ne (by rw [k_t, k19.2]; decide))).trans ((ju_c _ _ (kd_ne (by rw [k_t, k16.2]; decide))).trans e1))) ((ju_i _ _ (zne (by decide))).trans ((ju_c _ _ (kd_ne (by rw [k_t, k19.2]; decide))).trans ((ju_c _ _ (kd_ne (by rw [k_t, k16.2]; decide))).trans e25))) (fun r24 z24 w24_0 => ?_)) (Nat.le_of_ble_eq_true rfl))
          refine jr.iadd rfl ?_
          refine jr.putf (i := 6) (x := (u + r24)) rfl rfl (Nat.lt_trans (kx_1 k_t).1 (by decide)) (kx_1 k_t).2 (by decide) rfl rfl rfl rfl rfl ?_
          refine jr.iconst rfl ?_
          exact jr.ireturn rfl rfl rfl (q _ _ (CI.u (CI.u (CI.u (CI.u hC_M (i := z) k16.2 (show (-9223372036854775808 : Int) ≤ _ ∧ _ ≤ (9223372036854775807 : Int) from by omega) rfl) (i := z) k19.2 (show (-9223372036854775808 : Int) ≤ _ ∧ _ ≤ (9223372036854775807 : Int) from by omega) rfl) (i := 12) k_t (show (0 : Int) ≤ _ ∧ _ ≤ (1 : Int) from by omega) rfl) (i := 6) k_t (show (-2147483648 : Int) ≤ _ ∧ _ ≤ (2147483647 : Int) from by omega) rfl) (FR.o (FR.o (FR.o (FR.o ht_M k16.2 rfl) k19.2 rfl) k_t rfl) k_t rfl) (by omega) (Or.inr ⟨by rw [p0, e1]; omega, rfl, by rw [p0, if_neg (by rw [e1]; omega)]; exact (tiM_e (by rw [show M ((t + 6)) z = v17 from e17]) (by rw [show M ((t + 7)) z = v20 from e20, ← hN]) (by rw [show M t 12 = v23 from e23]; first | (rw [if_pos (by omega)]) | (rw [if_neg (by omega)])) (by rw [show M t 2 = v1 from e1, show M t 5 = v25 from e25, ← w24_0]))⟩))
        · refine jr.iload_n rfl rfl ?_
          refine jr.iconst rfl ?_
          refine jr.icmp_ne rfl rfl (by first | (refine rgb (by assumption) ?_; exact rfl) | omega) (rgl rfl) (fun h85 => ?_) (fun h85 => ?_)
          · refine jr.iconst rfl ?_
            refine jr.putf (i := 12) (x := 0) rfl rfl (Nat.lt_trans (kx_1 k_t).1 (by decide)) (kx_1 k_t).2 (by decide) rfl rfl rfl rfl rfl ?_
            refine jr.aload_n rfl rfl ?_
            refine jr.iload rfl rfl ?_
            refine jr.aload_n rfl rfl ?_
            obtain ⟨v27, e27⟩ : ∃ z_, M t 5 = z_ := ⟨_, rfl⟩
            have b27 : (-2147483648) ≤ v27 ∧ v27 ≤ 2147483647 := by rw [← e27]; exact (CI.r hC_M k_t (by decide) 5)
            refine jr_v rfl rfl (Or.inl rfl) rfl rfl (Nat.lt_trans (kx_1 k_t).1 (by decide)) (kx_1 k_t).2 ⟨rfl, Nat.le_of_ble_eq_true rfl, Nat.le_of_ble_eq_true rfl⟩ rfl (jc.deep (c_Flow_lifeNow_x (CI.u (CI.u (CI.u hC_M (i := z) k16.2 (show (-9223372036854775808 : Int) ≤ _ ∧ _ ≤ (9223372036854775807 : Int) from by omega) rfl) (i := z) k19.2 (show (-9223372036854775808 : Int) ≤ _ ∧ _ ≤ (9223372036854775807 : Int) from by omega) rfl) (i := 12) k_t (show (0 : Int) ≤ _ ∧ _ ≤ (1 : Int) from by omega) rfl) k_t ((ju_i _ _ (zne (by decide))).trans ((ju_c _ _ (kd_ne (by rw [k_t, k19.2]; decide))).trans ((ju_c _ _ (kd_ne (by rw [k_t, k16.2]; decide))).trans e1))) ((ju_i _ _ (zne (by decide))).trans ((ju_c _ _ (kd_ne (by rw [k_t, k19.2]; decide))).trans ((ju_c _ _ (kd_ne (by rw [k_t, k16.2]; decide))).trans e27))) (fun r26 z26 w26_0 => ?_)) (Nat.le_of_ble_eq_true rfl))
            refine jr.iadd rfl ?_
            refine jr.putf (i := 6) (x := (u + r26)) rfl rfl (Nat.lt_trans (kx_1 k_t).1 (by decide)) (kx_1 k_t).2 (by decide) rfl rfl rfl rfl rfl ?_
            refine jr.iconst rfl ?_
            exact jr.ireturn rfl rfl rfl (q _ _ (CI.u (CI.u (CI.u (CI.u hC_M (i := z) k16.2 (show (-9223372036854775808 : Int) ≤ _ ∧ _ ≤ (9223372036854775807 : Int) from by omega) rfl) (i := z) k19.2 (show (-9223372036854775808 : Int) ≤ _ ∧ _ ≤ (9223372036854775807 : Int) from by omega) rfl) (i := 12) k_t (show (0 : Int) ≤ _ ∧ _ ≤ (1 : Int) from by omega) rfl) (i := 6) k_t (show (-2147483648 : Int) ≤ _ ∧ _ ≤ (2147483647 : Int) from by omega) rfl) (FR.o (FR.o (FR.o (FR.o ht_M k16.2 rfl) k19.2 rfl) k_t rfl) k_t rfl) (by omega) (Or.inr ⟨by rw [p0, e1]; omega, rfl, by rw [p0, if_neg (by rw [e1]; omega)]; exact (tiM_e (by rw [show M ((t + 6)) z = v17 from e17]) (by rw [show M ((t + 7)) z = v20 from e20, ← hN]) (by rw [show M t 12 = v23 from e23]; first | (rw [if_pos (by omega)]) | (rw [if_neg (by omega)])) (by rw [show M t 2 = v1 from e1, show M t 5 = v27 from e27, ← w26_0]))⟩))
          · exact absurd (by omega) h85
      · refine jr.aload_n rfl rfl ?_
        refine jr.iconst rfl ?_
        refine jr.putf (i := 5) (x := 1) rfl rfl (Nat.lt_trans (kx_1 k_t).1 (by decide)) (kx_1 k_t).2 (by decide) rfl rfl rfl rfl rfl ?_
        refine jr.aload_n rfl rfl ?_
        have k28 := kf_1_10 k_t
        refine jr.getf (i := 10) (v := .ref (t + 6)) rfl rfl (Nat.lt_trans (kx_1 k_t).1 (by decide)) (kx_1 k_t).2 (by decide) rfl rfl rfl (jval_ref rfl k28.1) ?_
        refine jr.iload_n rfl rfl ?_
        refine jr.dup2 rfl ⟨rfl, rfl⟩ ?_
        obtain ⟨v29, e29⟩ : ∃ z_, M ((t + 6)) z = z_ := ⟨_, rfl⟩
        have b29 : (-9223372036854775808) ≤ v29 ∧ v29 ≤ 9223372036854775807 := by rw [← e29]; exact (CI.r hC_M k28.2 (by decide) z)
        refine jr.lald (i := z) (x := v29) rfl (Nat.lt_trans (kx_6 k28.2).1 (by decide)) (kx_6 k28.2).2 (by decide) (by omega) (by omega) ((ju_c _ _ (kd_ne (by rw [k28.2, k_t]; decide))).trans e29) ?_
        refine jr.lconst (x := 1) rfl (by decide) ?_
        refine jr.ladd rfl ?_
        refine jr.lw (jl_w (v29 + 1)) (jl_w_eq _) ?_
        have b30 : -9223372036854775808 ≤ jl_w (v29 + 1) ∧ jl_w (v29 + 1) ≤ 9223372036854775807 := jbl_any _
        refine jr.last (i := z) (x := (jl_w (v29 + 1))) rfl (Nat.lt_trans (kx_6 k28.2).1 (by decide)) (kx_6 k28.2).2 (by decide) (by omega) (by omega) ?_
        refine jr.aload_n rfl rfl ?_
        have k31 := kf_1_11 k_t
        refine jr.getf (i := 11) (v := .ref (t + 7)) rfl rfl (Nat.lt_trans (kx_1 k_t).1 (by decide)) (kx_1 k_t).2 (by decide) rfl rfl rfl (jval_ref rfl k31.1) ?_
        refine jr.iload_n rfl rfl ?_
        refine jr.dup2 rfl ⟨rfl, rfl⟩ ?_
        obtain ⟨v32, e32⟩ : ∃ z_, M ((t + 7)) z = z_ := ⟨_, rfl⟩
        have b32 : (-9223372036854775808) ≤ v32 ∧ v32 ≤ 9223372036854775807 := by rw [← e32]; exact (CI.r hC_M k31.2 (by decide) z)
        refine jr.lald (i := z) (x := v32) rfl (Nat.lt_trans (kx_3 k31.2).1 (by decide)) (kx_3 k31.2).2 (by decide) (by omega) (by omega) ((ju_c _ _ (kd_ne (by rw [k31.2, k28.2]; decide))).trans ((ju_c _ _ (kd_ne (by rw [k31.2, k_t]; decide))).trans e32)) ?_
        refine jr.aload_n rfl rfl ?_
        refine jr.getf (i := 7) (x := S) (v := .ref (S.toNat)) rfl rfl (nlt rfl) rfl (nlt rfl) rfl rfl ((ju_c _ _ (kd_ne (by rw [(show kd 3 = 18 from rfl), k28.2]; decide))).trans ((ju_i _ _ (zne (by decide))).trans g_S)) rfl ?_
        refine jr.getf (i := 1) (x := L) (v := .int (Int32.ofInt (L))) rfl rfl (Nat.lt_trans (kx_33 k_S).1 (by decide)) (kx_33 k_S).2 (by decide) rfl rfl ((ju_c _ _ (kd_ne (by rw [k_S, k28.2]; decide))).trans ((ju_i _ _ (zne (by decide))).trans g_L)) rfl ?_
        refine jr.i2l rfl (by omega) ?_
        refine jr.ladd rfl ?_
        refine jr.lw (jl_w (v32 + L)) (jl_w_eq _) ?_
        have b34 : -9223372036854775808 ≤ jl_w (v32 + L) ∧ jl_w (v32 + L) ≤ 9223372036854775807 := jbl_any _
        refine jr.last (i := z) (x := (jl_w (v32 + L))) rfl (Nat.lt_trans (kx_3 k31.2).1 (by decide)) (kx_3 k31.2).2 (by decide) (by omega) (by omega) ?_
        refine jr.aload_n rfl rfl ?_
        refine jr.aload_n rfl rfl ?_
        obtain ⟨v35, e35⟩ : ∃ z_, M t 12 = z_ := ⟨_, rfl⟩
        have b35 : 0 ≤ v35 ∧ v35 ≤ 1 := by rw [← e35]; exact (CI.r hC_M k_t (by decide) 12)
        refine jr.getf (i := 12) (x := v35) (v := .int (Int32.ofInt (v35))) rfl rfl (Nat.lt_trans (kx_1 k_t).1 (by decide)) (kx_1 k_t).2 (by decide) rfl rfl ((ju_c _ _ (kd_ne (by rw [k_t, k31.2]; decide))).trans ((ju_c _ _ (kd_ne (by rw [k_t, k28.2]; decide))).trans ((ju_i _ _ (zne (by decide))).trans e35))) rfl ?_
        refine jr.if_ne rfl rfl (by first | (refine rgb (by assumption) ?_; exact rfl) | omega) (fun h80 => ?_) (fun h80 => ?_)
        · have sx80 : (1 : Int) ≤ v35 := by omega
          clear h80
          refine jr.iconst rfl ?_
          refine jr.goto rfl rfl ?_
          refine jr.putf (i := 12) (x := 1) rfl rfl (Nat.lt_trans (kx_1 k_t).1 (by decide)) (kx_1 k_t).2 (by decide) rfl rfl rfl rfl rfl ?_
          refine jr.aload_n rfl rfl ?_
          refine jr.iload rfl rfl ?_
          refine jr.aload_n rfl rfl ?_
          refine jr_v rfl rfl (Or.inl rfl) rfl rfl (Nat.lt_trans (kx_1 k_t).1 (by decide)) (kx_1 k_t).2 ⟨rfl, Nat.le_of_ble_eq_true rfl, Nat.le_of_ble_eq_true rfl⟩ rfl (jc.deep (c_Flow_lifeNow_x (CI.u (CI.u (CI.u (CI.u hC_M (i := 5) k_t (show (-2147483648 : Int) ≤ _ ∧ _ ≤ (2147483647 : Int) from by omega) rfl) (i := z) k28.2 (show (-9223372036854775808 : Int) ≤ _ ∧ _ ≤ (9223372036854775807 : Int) from by omega) rfl) (i := z) k31.2 (show (-9223372036854775808 : Int) ≤ _ ∧ _ ≤ (9223372036854775807 : Int) from by omega) rfl) (i := 12) k_t (show (0 : Int) ≤ _ ∧ _ ≤ (1 : Int) from by omega) rfl) k_t ((ju_i _ _ (zne (by decide))).trans ((ju_c _ _ (kd_ne (by rw [k_t, k31.2]; decide))).trans ((ju_c _ _ (kd_ne (by rw [k_t, k28.2]; decide))).trans ((ju_i _ _ (zne (by decide))).trans e1)))) ((ju_i _ _ (zne (by decide))).trans ((ju_c _ _ (kd_ne (by rw [k_t, k31.2]; decide))).trans ((ju_c _ _ (kd_ne (by rw [k_t, k28.2]; decide))).trans (ju_same _ _ _ _)))) (fun r36 z36 w36_0 => ?_)) (Nat.le_of_ble_eq_true rfl))
          refine jr.iadd rfl ?_
          refine jr.putf (i := 6) (x := (u + r36)) rfl rfl (Nat.lt_trans (kx_1 k_t).1 (by decide)) (kx_1 k_t).2 (by decide) rfl rfl rfl rfl rfl ?_
          refine jr.iconst rfl ?_
          exact jr.ireturn rfl rfl rfl (q _ _ (CI.u (CI.u (CI.u (CI.u (CI.u hC_M (i := 5) k_t (show (-2147483648 : Int) ≤ _ ∧ _ ≤ (2147483647 : Int) from by omega) rfl) (i := z) k28.2 (show (-9223372036854775808 : Int) ≤ _ ∧ _ ≤ (9223372036854775807 : Int) from by omega) rfl) (i := z) k31.2 (show (-9223372036854775808 : Int) ≤ _ ∧ _ ≤ (9223372036854775807 : Int) from by omega) rfl) (i := 12) k_t (show (0 : Int) ≤ _ ∧ _ ≤ (1 : Int) from by omega) rfl) (i := 6) k_t (show (-2147483648 : Int) ≤ _ ∧ _ ≤ (2147483647 : Int) from by omega) rfl) (FR.o (FR.o (FR.o (FR.o (FR.o ht_M k_t rfl) k28.2 rfl) k31.2 rfl) k_t rfl) k_t rfl) (by omega) (Or.inr ⟨by rw [p0, e1]; omega, rfl, by rw [p0, if_pos (by rw [e1]; omega)]; exact (tiM_e (by rw [show (ju M t 5 1) ((t + 6)) z = v29 from ((ju_c _ _ (kd_ne (by rw [k28.2, k_t]; decide))).trans e29)]) (by rw [show (ju M t 5 1) ((t + 7)) z = v32 from ((ju_c _ _ (kd_ne (by rw [k31.2, k_t]; decide))).trans e32), ← hN]) (by rw [show (ju M t 5 1) t 12 = v35 from ((ju_i _ _ (zne (by decide))).trans e35)]; first | (rw [if_pos (by omega)]) | (rw [if_neg (by omega)])) (by rw [show (ju M t 5 1) t 2 = v1 from ((ju_i _ _ (zne (by decide))).trans e1), show (ju M t 5 1) t 5 = 1 from (ju_same _ _ _ _), ← w36_0]))⟩))
        · refine jr.iload_n rfl rfl ?_
          refine jr.iconst rfl ?_
          refine jr.icmp_ne rfl rfl (by first | (refine rgb (by assumption) ?_; exact rfl) | omega) (rgl rfl) (fun h85 => ?_) (fun h85 => ?_)
          · exact absurd h85 (by omega)
          · refine jr.iconst rfl ?_
            refine jr.goto rfl rfl ?_
            refine jr.putf (i := 12) (x := 1) rfl rfl (Nat.lt_trans (kx_1 k_t).1 (by decide)) (kx_1 k_t).2 (by decide) rfl rfl rfl rfl rfl ?_
            refine jr.aload_n rfl rfl ?_
            refine jr.iload rfl rfl ?_
            refine jr.aload_n rfl rfl ?_
            refine jr_v rfl rfl (Or.inl rfl) rfl rfl (Nat.lt_trans (kx_1 k_t).1 (by decide)) (kx_1 k_t).2 ⟨rfl, Nat.le_of_ble_eq_true rfl, Nat.le_of_ble_eq_true rfl⟩ rfl (jc.deep (c_Flow_lifeNow_x (CI.u (CI.u (CI.u (CI.u hC_M (i := 5) k_t (show (-2147483648 : Int) ≤ _ ∧ _ ≤ (2147483647 : Int) from by omega) rfl) (i := z) k28.2 (show (-9223372036854775808 : Int) ≤ _ ∧ _ ≤ (9223372036854775807 : Int) from by omega) rfl) (i := z) k31.2 (show (-9223372036854775808 : Int) ≤ _ ∧ _ ≤ (9223372036854775807 : Int) from by omega) rfl) (i := 12) k_t (show (0 : Int) ≤ _ ∧ _ ≤ (1 : Int) from by omega) rfl) k_t ((ju_i _ _ (zne (by decide))).trans ((ju_c _ _ (kd_ne (by rw [k_t, k31.2]; decide))).trans ((ju_c _ _ (kd_ne (by rw [k_t, k28.2]; decide))).trans ((ju_i _ _ (zne (by decide))).trans e1)))) ((ju_i _ _ (zne (by decide))).trans ((ju_c _ _ (kd_ne (by rw [k_t, k31.2]; decide))).trans ((ju_c _ _ (kd_ne (by rw [k_t, k28.2]; decide))).trans (ju_same _ _ _ _)))) (fun r37 z37 w37_0 => ?_)) (Nat.le_of_ble_eq_true rfl))
            refine jr.iadd rfl ?_
            refine jr.putf (i := 6) (x := (u + r37)) rfl rfl (Nat.lt_trans (kx_1 k_t).1 (by decide)) (kx_1 k_t).2 (by decide) rfl rfl rfl rfl rfl ?_
            refine jr.iconst rfl ?_
            exact jr.ireturn rfl rfl rfl (q _ _ (CI.u (CI.u (CI.u (CI.u (CI.u hC_M (i := 5) k_t (show (-2147483648 : Int) ≤ _ ∧ _ ≤ (2147483647 : Int) from by omega) rfl) (i := z) k28.2 (show (-9223372036854775808 : Int) ≤ _ ∧ _ ≤ (9223372036854775807 : Int) from by omega) rfl) (i := z) k31.2 (show (-9223372036854775808 : Int) ≤ _ ∧ _ ≤ (9223372036854775807 : Int) from by omega) rfl) (i := 12) k_t (show (0 : Int) ≤ _ ∧ _ ≤ (1 : Int) from by omega) rfl) (i := 6) k_t (show (-2147483648 : Int) ≤ _ ∧ _ ≤ (2147483647 : Int) from by omega) rfl) (FR.o (FR.o (FR.o (FR.o (FR.o ht_M k_t rfl) k28.2 rfl) k31.2 rfl) k_t rfl) k_t rfl) (by omega) (Or.inr ⟨by rw [p0, e1]; omega, rfl, by rw [p0, if_pos (by rw [e1]; omega)]; exact (tiM_e (by rw [show (ju M t 5 1) ((t + 6)) z = v29 from ((ju_c _ _ (kd_ne (by rw [k28.2, k_t]; decide))).trans e29)]) (by rw [show (ju M t 5 1) ((t + 7)) z = v32 from ((ju_c _ _ (kd_ne (by rw [k31.2, k_t]; decide))).trans e32), ← hN]) (by rw [show (ju M t 5 1) t 12 = v35 from ((ju_i _ _ (zne (by decide))).trans e35)]; first | (rw [if_pos (by omega)]) | (rw [if_neg (by omega)])) (by rw [show (ju M t 5 1) t 2 = v1 from ((ju_i _ _ (zne (by decide))).trans e1), show (ju M t 5 1) t 5 = 1 from (ju_same _ _ _ _), ← w37_0]))⟩))
  · refine jr.aload_n rfl rfl ?_
    refine jr.aload_n rfl rfl ?_
    refine jr.iload_n rfl rfl ?_
    refine jr.iload_n rfl rfl ?_
    refine jr_v rfl rfl (Or.inl rfl) rfl rfl (Nat.lt_trans (kx_1 k_t).1 (by decide)) (kx_1 k_t).2 ⟨rfl, Nat.le_of_ble_eq_true rfl, Nat.le_of_ble_eq_true rfl⟩ rfl (jc.deep (c_Flow_takeStream_x hC_M (FR.rfl _ M) k_t (by omega) (by omega) g_C rfl p1 (by omega) (fun r38 M38 hC_M38 hf_M38 z38 w38_0 => ?_)) (Nat.le_of_ble_eq_true rfl))
    have ht_M38 : FR W_c_Flow_takeIn_x T M38 := FR.t ht_M hf_M38 (kw_sub rfl)
    refine jr.istore (ls' := [_, _, _, _, _, _]) rfl (nlt rfl) rfl ?_
    refine jr.iload rfl rfl ?_
    refine jr.if_eq rfl rfl (by first | (refine rgb (by assumption) ?_; exact rfl) | omega) (fun h20 => ?_) (fun h20 => ?_)
    · refine jr.goto rfl rfl ?_
      refine jr.aload_n rfl rfl ?_
      have k39 := kf_1_10 k_t
      refine jr.getf (i := 10) (v := .ref (t + 6)) rfl rfl (Nat.lt_trans (kx_1 k_t).1 (by decide)) (kx_1 k_t).2 (by decide) rfl rfl rfl (jval_ref rfl k39.1) ?_
      refine jr.iload_n rfl rfl ?_
      refine jr.dup2 rfl ⟨rfl, rfl⟩ ?_
      obtain ⟨v40, e40⟩ : ∃ z_, M38 ((t + 6)) z = z_ := ⟨_, rfl⟩
      have b40 : (-9223372036854775808) ≤ v40 ∧ v40 ≤ 9223372036854775807 := by rw [← e40]; exact (CI.r hC_M38 k39.2 (by decide) z)
      refine jr.lald (i := z) (x := v40) rfl (Nat.lt_trans (kx_6 k39.2).1 (by decide)) (kx_6 k39.2).2 (by decide) (by omega) (by omega) e40 ?_
      refine jr.lconst (x := 1) rfl (by decide) ?_
      refine jr.ladd rfl ?_
      refine jr.lw (jl_w (v40 + 1)) (jl_w_eq _) ?_
      have b41 : -9223372036854775808 ≤ jl_w (v40 + 1) ∧ jl_w (v40 + 1) ≤ 9223372036854775807 := jbl_any _
      refine jr.last (i := z) (x := (jl_w (v40 + 1))) rfl (Nat.lt_trans (kx_6 k39.2).1 (by decide)) (kx_6 k39.2).2 (by decide) (by omega) (by omega) ?_
      refine jr.aload_n rfl rfl ?_
      have k42 := kf_1_11 k_t
      refine jr.getf (i := 11) (v := .ref (t + 7)) rfl rfl (Nat.lt_trans (kx_1 k_t).1 (by decide)) (kx_1 k_t).2 (by decide) rfl rfl rfl (jval_ref rfl k42.1) ?_
      refine jr.iload_n rfl rfl ?_
      refine jr.dup2 rfl ⟨rfl, rfl⟩ ?_
      obtain ⟨v43, e43⟩ : ∃ z_, M38 ((t + 7)) z = z_ := ⟨_, rfl⟩
      have b43 : (-9223372036854775808) ≤ v43 ∧ v43 ≤ 9223372036854775807 := by rw [← e43]; exact (CI.r hC_M38 k42.2 (by decide) z)
      refine jr.lald (i := z) (x := v43) rfl (Nat.lt_trans (kx_3 k42.2).1 (by decide)) (kx_3 k42.2).2 (by decide) (by omega) (by omega) ((ju_c _ _ (kd_ne (by rw [k42.2, k39.2]; decide))).trans e43) ?_
      refine jr.aload_n rfl rfl ?_
      have e44 : M38 3 7 = S := (hf_M38.g (show kd 3 = 18 from rfl) rfl).trans g_S
      refine jr.getf (i := 7) (x := S) (v := .ref (S.toNat)) rfl rfl (nlt rfl) rfl (nlt rfl) rfl rfl ((ju_c _ _ (kd_ne (by rw [(show kd 3 = 18 from rfl), k39.2]; decide))).trans e44) rfl ?_
      have e46 : M38 ((S.toNat)) 1 = L := (hf_M38.g k_S rfl).trans g_L
      refine jr.getf (i := 1) (x := L) (v := .int (Int32.ofInt (L))) rfl rfl (Nat.lt_trans (kx_33 k_S).1 (by decide)) (kx_33 k_S).2 (by decide) rfl rfl ((ju_c _ _ (kd_ne (by rw [k_S, k39.2]; decide))).trans e46) rfl ?_
      refine jr.i2l rfl (by omega) ?_
      refine jr.ladd rfl ?_
      refine jr.lw (jl_w (v43 + L)) (jl_w_eq _) ?_
      have b47 : -9223372036854775808 ≤ jl_w (v43 + L) ∧ jl_w (v43 + L) ≤ 9223372036854775807 := jbl_any _
      refine jr.last (i := z) (x := (jl_w (v43 + L))) rfl (Nat.lt_trans (kx_3 k42.2).1 (by decide)) (kx_3 k42.2).2 (by decide) (by omega) (by omega) ?_
      refine jr.aload_n rfl rfl ?_
      refine jr.aload_n rfl rfl ?_
      obtain ⟨v48, e48⟩ : ∃ z_, M38 t 12 = z_ := ⟨_, rfl⟩
      have b48 : 0 ≤ v48 ∧ v48 ≤ 1 := by rw [← e48]; exact (CI.r hC_M38 k_t (by decide) 12)
      refine jr.getf (i := 12) (x := v48) (v := .int (Int32.ofInt (v48))) rfl rfl (Nat.lt_trans (kx_1 k_t).1 (by decide)) (kx_1 k_t).2 (by decide) rfl rfl ((ju_c _ _ (kd_ne (by rw [k_t, k42.2]; decide))).trans ((ju_c _ _ (kd_ne (by rw [k_t, k39.2]; decide))).trans e48)) rfl ?_
      refine jr.if_ne rfl rfl (by first | (refine rgb (by assumption) ?_; exact rfl) | omega) (fun h80 => ?_) (fun h80 => ?_)
      · have sx80 : (1 : Int) ≤ v48 := by omega
        clear h80
        refine jr.iconst rfl ?_
        refine jr.goto rfl rfl ?_
        refine jr.putf (i := 12) (x := 1) rfl rfl (Nat.lt_trans (kx_1 k_t).1 (by decide)) (kx_1 k_t).2 (by decide) rfl rfl rfl rfl rfl ?_
        refine jr.aload_n rfl rfl ?_
        refine jr.iload rfl rfl ?_
        refine jr.aload_n rfl rfl ?_
        have e50 : M38 t 2 = v1 := (hf_M38.g k_t rfl).trans e1
        obtain ⟨v51, e51⟩ : ∃ z_, M38 t 5 = z_ := ⟨_, rfl⟩
        have b51 : (-2147483648) ≤ v51 ∧ v51 ≤ 2147483647 := by rw [← e51]; exact (CI.r hC_M38 k_t (by decide) 5)
        refine jr_v rfl rfl (Or.inl rfl) rfl rfl (Nat.lt_trans (kx_1 k_t).1 (by decide)) (kx_1 k_t).2 ⟨rfl, Nat.le_of_ble_eq_true rfl, Nat.le_of_ble_eq_true rfl⟩ rfl (jc.deep (c_Flow_lifeNow_x (CI.u (CI.u (CI.u hC_M38 (i := z) k39.2 (show (-9223372036854775808 : Int) ≤ _ ∧ _ ≤ (9223372036854775807 : Int) from by omega) rfl) (i := z) k42.2 (show (-9223372036854775808 : Int) ≤ _ ∧ _ ≤ (9223372036854775807 : Int) from by omega) rfl) (i := 12) k_t (show (0 : Int) ≤ _ ∧ _ ≤ (1 : Int) from by omega) rfl) k_t ((ju_i _ _ (zne (by decide))).trans ((ju_c _ _ (kd_ne (by rw [k_t, k42.2]; decide))).trans ((ju_c _ _ (kd_ne (by rw [k_t, k39.2]; decide))).trans e50))) ((ju_i _ _ (zne (by decide))).trans ((ju_c _ _ (kd_ne (by rw [k_t, k42.2]; decide))).trans ((ju_c _ _ (kd_ne (by rw [k_t, k39.2]; decide))).trans e51))) (fun r49 z49 w49_0 => ?_)) (Nat.le_of_ble_eq_true rfl))
        refine jr.iadd rfl ?_
        refine jr.putf (i := 6) (x := (u + r49)) rfl rfl (Nat.lt_trans (kx_1 k_t).1 (by decide)) (kx_1 k_t).2 (by decide) rfl rfl rfl rfl rfl ?_
        refine jr.iconst rfl ?_
        exact jr.ireturn rfl rfl rfl (q _ _ (CI.u (CI.u (CI.u (CI.u hC_M38 (i := z) k39.2 (show (-9223372036854775808 : Int) ≤ _ ∧ _ ≤ (9223372036854775807 : Int) from by omega) rfl) (i := z) k42.2 (show (-9223372036854775808 : Int) ≤ _ ∧ _ ≤ (9223372036854775807 : Int) from by omega) rfl) (i := 12) k_t (show (0 : Int) ≤ _ ∧ _ ≤ (1 : Int) from by omega) rfl) (i := 6) k_t (show (-2147483648 : Int) ≤ _ ∧ _ ≤ (2147483647 : Int) from by omega) rfl) (FR.o (FR.o (FR.o (FR.o ht_M38 k39.2 rfl) k42.2 rfl) k_t rfl) k_t rfl) (by omega) (Or.inl ⟨by rw [p0, e1]; omega, M38, _, by rw [p0]; exact w38_0, Or.inr ⟨by omega, rfl, (tiM_e (by rw [show M38 ((t + 6)) z = v40 from e40]) (by rw [show M38 ((t + 7)) z = v43 from e43, ← hN]) (by rw [show M38 t 12 = v48 from e48]; first | (rw [if_pos (by omega)]) | (rw [if_neg (by omega)])) (by rw [show M38 t 2 = v1 from e50, show M38 t 5 = v51 from e51, ← w49_0]))⟩⟩))
      · refine jr.iload_n rfl rfl ?_
        refine jr.iconst rfl ?_
        refine jr.icmp_ne rfl rfl (by first | (refine rgb (by assumption) ?_; exact rfl) | omega) (rgl rfl) (fun h85 => ?_) (fun h85 => ?_)
        · have sx85 : z ≤ (0 : Int) := by omega
          clear h85
          refine jr.iconst rfl ?_
          refine jr.putf (i := 12) (x := 0) rfl rfl (Nat.lt_trans (kx_1 k_t).1 (by decide)) (kx_1 k_t).2 (by decide) rfl rfl rfl rfl rfl ?_
          refine jr.aload_n rfl rfl ?_
          refine jr.iload rfl rfl ?_
          refine jr.aload_n rfl rfl ?_
          have e53 : M38 t 2 = v1 := (hf_M38.g k_t rfl).trans e1
          obtain ⟨v54, e54⟩ : ∃ z_, M38 t 5 = z_ := ⟨_, rfl⟩
          have b54 : (-2147483648) ≤ v54 ∧ v54 ≤ 2147483647 := by rw [← e54]; exact (CI.r hC_M38 k_t (by decide) 5)
          refine jr_v rfl rfl (Or.inl rfl) rfl rfl (Nat.lt_trans (kx_1 k_t).1 (by decide)) (kx_1 k_t).2 ⟨rfl, Nat.le_of_ble_eq_true rfl, Nat.le_of_ble_eq_true rfl⟩ rfl (jc.deep (c_Flow_lifeNow_x (CI.u (CI.u (CI.u hC_M38 (i := z) k39.2 (show (-9223372036854775808 : Int) ≤ _ ∧ _ ≤ (9223372036854775807 : Int) from by omega) rfl) (i := z) k42.2 (show (-9223372036854775808 : Int) ≤ _ ∧ _ ≤ (9223372036854775807 : Int) from by omega) rfl) (i := 12) k_t (show (0 : Int) ≤ _ ∧ _ ≤ (1 : Int) from by omega) rfl) k_t ((ju_i _ _ (zne (by decide))).trans ((ju_c _ _ (kd_ne (by rw [k_t, k42.2]; decide))).trans ((ju_c _ _ (kd_ne (by rw [k_t, k39.2]; decide))).trans e53))) ((ju_i _ _ (zne (by decide))).trans ((ju_c _ _ (kd_ne (by rw [k_t, k42.2]; decide))).trans ((ju_c _ _ (kd_ne (by rw [k_t, k39.2]; decide))).trans e54))) (fun r52 z52 w52_0 => ?_)) (Nat.le_of_ble_eq_true rfl))
          refine jr.iadd rfl ?_
          refine jr.putf (i := 6) (x := (u + r52)) rfl rfl (Nat.lt_trans (kx_1 k_t).1 (by decide)) (kx_1 k_t).2 (by decide) rfl rfl rfl rfl rfl ?_
          refine jr.iconst rfl ?_
          exact jr.ireturn rfl rfl rfl (q _ _ (CI.u (CI.u (CI.u (CI.u hC_M38 (i := z) k39.2 (show (-9223372036854775808 : Int) ≤ _ ∧ _ ≤ (9223372036854775807 : Int) from by omega) rfl) (i := z) k42.2 (show (-9223372036854775808 : Int) ≤ _ ∧ _ ≤ (9223372036854775807 : Int) from by omega) rfl) (i := 12) k_t (show (0 : Int) ≤ _ ∧ _ ≤ (1 : Int) from by omega) rfl) (i := 6) k_t (show (-2147483648 : Int) ≤ _ ∧ _ ≤ (2147483647 : Int) from by omega) rfl) (FR.o (FR.o (FR.o (FR.o ht_M38 k39.2 rfl) k42.2 rfl) k_t rfl) k_t rfl) (by omega) (Or.inl ⟨by rw [p0, e1]; omega, M38, _, by rw [p0]; exact w38_0, Or.inr ⟨by omega, rfl, (tiM_e (by rw [show M38 ((t + 6)) z = v40 from e40]) (by rw [show M38 ((t + 7)) z = v43 from e43, ← hN]) (by rw [show M38 t 12 = v48 from e48]; first | (rw [if_pos (by omega)]) | (rw [if_neg (by omega)])) (by rw [show M38 t 2 = v1 from e53, show M38 t 5 = v54 from e54, ← w52_0]))⟩⟩))
        · refine jr.iconst rfl ?_
          refine jr.goto rfl rfl ?_
          refine jr.putf (i := 12) (x := 1) rfl rfl (Nat.lt_trans (kx_1 k_t).1 (by decide)) (kx_1 k_t).2 (by decide) rfl rfl rfl rfl rfl ?_
          refine jr.aload_n rfl rfl ?_
          refine jr.iload rfl rfl ?_
          refine jr.aload_n rfl rfl ?_
          have e56 : M38 t 2 = v1 := (hf_M38.g k_t rfl).trans e1
          obtain ⟨v57, e57⟩ : ∃ z_, M38 t 5 = z_ := ⟨_, rfl⟩
          have b57 : (-2147483648) ≤ v57 ∧ v57 ≤ 2147483647 := by rw [← e57]; exact (CI.r hC_M38 k_t (by decide) 5)
          refine jr_v rfl rfl (Or.inl rfl) rfl rfl (Nat.lt_trans (kx_1 k_t).1 (by decide)) (kx_1 k_t).2 ⟨rfl, Nat.le_of_ble_eq_true rfl, Nat.le_of_ble_eq_true rfl⟩ rfl (jc.deep (c_Flow_lifeNow_x (CI.u (CI.u (CI.u hC_M38 (i := z) k39.2 (show (-9223372036854775808 : Int) ≤ _ ∧ _ ≤ (9223372036854775807 : Int) from by omega) rfl) (i := z) k42.2 (show (-9223372036854775808 : Int) ≤ _ ∧ _ ≤ (9223372036854775807 : Int) from by omega) rfl) (i := 12) k_t (show (0 : Int) ≤ _ ∧ _ ≤ (1 : Int) from by omega) rfl) k_t ((ju_i _ _ (zne (by decide))).trans ((ju_c _ _ (kd_ne (by rw [k_t, k42.2]; decide))).trans ((ju_c _ _ (kd_ne (by rw [k_t, k39.2]; decide))).trans e56))) ((ju_i _ _ (zne (by decide))).trans ((ju_c _ _ (kd_ne (by rw [k_t, k42.2]; decide))).trans ((ju_c _ _ (kd_ne (by rw [k_t, k39.2]; decide))).trans e57))) (fun r55 z55 w55_0 => ?_)) (Nat.le_of_ble_eq_true rfl))
          refine jr.iadd rfl ?_
          refine jr.putf (i := 6) (x := (u + r55)) rfl rfl (Nat.lt_trans (kx_1 k_t).1 (by decide)) (kx_1 k_t).2 (by decide) rfl rfl rfl rfl rfl ?_
          refine jr.iconst rfl ?_
          exact jr.ireturn rfl rfl rfl (q _ _ (CI.u (CI.u (CI.u (CI.u hC_M38 (i := z) k39.2 (show (-9223372036854775808 : Int) ≤ _ ∧ _ ≤ (9223372036854775807 : Int) from by omega) rfl) (i := z) k42.2 (show (-9223372036854775808 : Int) ≤ _ ∧ _ ≤ (9223372036854775807 : Int) from by omega) rfl) (i := 12) k_t (show (0 : Int) ≤ _ ∧ _ ≤ (1 : Int) from by omega) rfl) (i := 6) k_t (show (-2147483648 : Int) ≤ _ ∧ _ ≤ (2147483647 : Int) from by omega) rfl) (FR.o (FR.o (FR.o (FR.o ht_M38 k39.2 rfl) k42.2 rfl) k_t rfl) k_t rfl) (by omega) (Or.inl ⟨by rw [p0, e1]; omega, M38, _, by rw [p0]; exact w38_0, Or.inr ⟨by omega, rfl, (tiM_e (by rw [show M38 ((t + 6)) z = v40 from e40]) (by rw [show M38 ((t + 7)) z = v43 from e43, ← hN]) (by rw [show M38 t 12 = v48 from e48]; first | (rw [if_pos (by omega)]) | (rw [if_neg (by omega)])) (by rw [show M38 t 2 = v1 from e56, show M38 t 5 = v57 from e57, ← w55_0]))⟩⟩))
    · have sx20 : r38 ≤ (-1 : Int) := by omega
      clear h20
      refine jr.iload rfl rfl ?_
      exact jr.ireturn rfl rfl rfl (q _ _ hC_M38 ht_M38 (by omega) (Or.inl ⟨by rw [p0, e1]; omega, M38, _, by rw [p0]; exact w38_0, Or.inl ⟨by omega, rfl, rfl⟩⟩))
end
section
/-! ===== the class: track ===== -/
theorem xf0 : ∀ n : Nat, n < 24 → xe 16 (n : Int) = 29 + 16 * n ∧ xe 17 (n : Int) = 37 + 16 * n := by decide +kernel
theorem xfl {V i : Int} (hV : 16 ≤ V ∧ V ≤ 17) (h : 0 ≤ i ∧ i < 24) : (V = 16 ∧ xe V.toNat i = 29 + 16 * i.toNat) ∨ (V = 17 ∧ xe V.toNat i = 37 + 16 * i.toNat) := by
  obtain ⟨n, rfl⟩ := Int.eq_ofNat_of_zero_le h.1
  have q := xf0 n (by omega)
  rcases (show V = 16 ∨ V = 17 by omega) with rfl | rfl
  · exact Or.inl ⟨rfl, q.1⟩
  · exact Or.inr ⟨rfl, q.2⟩
theorem xfl_b {V i : Int} (hV : 16 ≤ V ∧ V ≤ 17) (h : 0 ≤ i ∧ i < 24) : xe V.toNat i ≠ 18 ∧ xe V.toNat i + 1 ≠ 20 ∧ xe V.toNat i ≠ 19 ∧ xe V.toNat i ≠ 20 ∧ xe V.toNat i + 2 ≠ 19 := by
  have q := xfl hV h
  omega
/-- the first place where no flow lives -/
noncomputable def frF (M : jm) (V : Nat) : Nat → Int → Int
  | 0, _ => -1
  | n + 1, i => if M (xe V i) 0 = 0 then i else frF M V n (i + 1)
theorem frF_s {M : jm} {V : Nat} {i : Int} (h : i < 24) : frF M V (24 - i).toNat i = if M (xe V i) 0 = 0 then i else frF M V (24 - (i + 1)).toNat (i + 1) := by
  obtain ⟨n, hn⟩ : ∃ n : Nat, i = 23 - n := ⟨(23 - i).toNat, by omega⟩
  subst hn
  rw [show (24 - (23 - (n : Int))).toNat = n + 1 by omega, show (24 - (23 - (n : Int) + 1)).toNat = n by omega]
  rfl
noncomputable def mayF (f : Int → Int) (N C I e : Int) : Prop := (e = 6 → tsS f N C I = 0) ∧ (e = 1 → vA f N C I 0 = 8)
noncomputable def BEQ (T M : jm) (f : Int → Int) (N C : Int) (V : Nat) (I y r : Int) : Prop := (¬ mayF f N C I (T 18 2) ∧ r = -6 ∧ M = T) ∨ (mayF f N C I (T 18 2) ∧ frF T V 24 0 = -1 ∧ r = -5 ∧ M = T) ∨ (mayF f N C I (T 18 2) ∧ frF T V 24 0 ≠ -1 ∧ r = frF T V 24 0 ∧ ∃ (B : jm) (q : Int), BGN T B (xe V r) ∧ TIQ B M (xe V r) f N C I 0 y q)
noncomputable def PTQ (T M : jm) (f : Int → Int) (N C F : Int) (V : Nat) (y r : Int) : Prop := (FND T M f N C F 0 ∧ r = -4) ∨ ∃ E : jm, FND T E f N C F 1 ∧ ((E 15 5 ≠ 0 ∧ r = (if feF E V 24 0 = -1 then -6 else feF E V 24 0) ∧ M = E) ∨ (E 15 5 = 0 ∧ feF E V 24 0 = -1 ∧ BEQ E M f N C V (E 15 4) y r) ∨ (E 15 5 = 0 ∧ feF E V 24 0 ≠ -1 ∧ ∃ q : Int, TIQ E M (xe V (feF E V 24 0)) f N C (E 15 4) (sdF E (xe V (feF E V 24 0)) 18) y q ∧ r = (if q = 0 then feF E V 24 0 else q)))
noncomputable def W_c_Flows_begin_x : List (Nat × Nat) := [(1, 0), (1, 1), (1, 2), (1, 5), (1, 6), (1, 12), (1, 13), (1, 15), (2, 1000), (3, 1000), (4, 1000), (5, 1000), (6, 1000), (7, 1000), (8, 1000)]
theorem c_Flows_begin_x_L63 {A : Nat → Option (Nat × (Nat → Int32))} {Q : Option Value → jm → Prop} {f : Int → Int} {N : Int} {T : jm} {C : Int} {I : Int} {E : Int} {V : Int} {y : Int} (q : ∀ (r : Int) (M' : jm), CI M' → FR W_c_Flows_begin_x T M' → (-6) ≤ r ∧ r ≤ 23 → (BEQ T M' f N C V.toNat I y r) → Q (some (.int (Int32.ofInt r))) M') : ∀ (nM : Nat) (M : jm) (i : Int), CI M → FR W_c_Flows_begin_x T M → 0 ≤ y ∧ y ≤ 2000000000 → 0 ≤ i ∧ i ≤ 24 → M 3 3 = C → M 15 4 = I → M 18 2 = E → M 15 0 = V → (HS M 3 f N) → (frF T V.toNat 24 0 = frF T V.toNat (24 - i).toNat i) → (mayF f N C I (T 18 2)) → (M = T) → ((E = 6 → kA f N C I = 8) ∧ (0 ≤ I ∧ I ≤ 11)) → 24 - i ≤ nM → jr A 5 xm_87 63 [(2, .int (Int32.ofInt (y))), (3, .int (Int32.ofInt (i))), (0, .ref (15)), (1, .ref (3))] [] M Q := by
  intro nM
  induction nM using Nat.strongRecOn with
  | ind nM ih =>
    intro M i hC_M ht_M h_y h_i g_C g_I g_E g_V hy0 hy1 hy2 hy3 hy4 hm
    have b_C : 0 ≤ C ∧ C ≤ 12 := by rw [← g_C]; exact (CI.r hC_M (show kd 3 = 18 from rfl) (by decide) 3)
    have b_I : (-2147483648) ≤ I ∧ I ≤ 2147483647 := by rw [← g_I]; exact (CI.r hC_M (show kd 15 = 9 from rfl) (by decide) 4)
    have b_E : (-2147483648) ≤ E ∧ E ≤ 2147483647 := by rw [← g_E]; exact (CI.r hC_M (show kd 18 = 1 from rfl) (by decide) 2)
    have b_V : 16 ≤ V ∧ V ≤ 17 := by rw [← g_V]; exact (CI.r hC_M (show kd 15 = 9 from rfl) (by decide) 0)
    refine jr.iload_n rfl rfl ?_
    refine jr.bipush rfl (jbp _ (nlt rfl)) ?_
    refine jr.icmp_ge rfl rfl (by first | (refine rgb (by assumption) ?_; exact rfl) | omega) (rgl rfl) (fun h66 => ?_) (fun h66 => ?_)
    · refine jr.bipush rfl (by decide) ?_
      exact jr.ireturn rfl rfl rfl (q _ _ hC_M ht_M (by first | exact rgq rfl | omega) (Or.inr (Or.inl ⟨hy2, by rw [hy1, show (24 - i).toNat = 0 from by omega]; rfl, rfl, hy3⟩)))
    · refine jr.aload_n rfl rfl ?_
      have k1 : kd (V).toNat = 13 := by rcases (show V = 16 ∨ V = 17 by omega) with h | h <;> (rw [h]; rfl)
      refine jr.getf (i := 0) (x := V) (v := .ref (V.toNat)) rfl rfl (nlt rfl) rfl (nlt rfl) rfl rfl g_V rfl ?_
      refine jr.iload_n rfl rfl ?_
      have k2 := kxe_13 k1 (i := i) (by omega) (by omega)
      refine jr.aald (c := (xe ((V.toNat)) i)) rfl (Nat.lt_trans (kx_13 k1).1 (by decide)) (kx_13 k1).2 (by decide) (by decide) rfl (by decide) (by omega) (by omega) k2.1 ?_
      obtain ⟨v3, e3⟩ : ∃ z_, M ((xe ((V.toNat)) i)) 0 = z_ := ⟨_, rfl⟩
      have b3 : 0 ≤ v3 ∧ v3 ≤ 1 := by rw [← e3]; exact (CI.r hC_M k2.2 (by decide) 0)
      refine jr.getf (i := 0) (x := v3) (v := .int (Int32.ofInt (v3))) rfl rfl (Nat.lt_trans (kx_1 k2.2).1 (by decide)) (kx_1 k2.2).2 (by decide) rfl rfl e3 rfl ?_
      refine jr.if_ne rfl rfl (by first | (refine rgb (by assumption) ?_; exact rfl) | omega) (fun h78 => ?_) (fun h78 => ?_)
      · have sx78 : (1 : Int) ≤ v3 := by omega
        clear h78
        refine jr.iinc (ls' := [_, _, _, _]) rfl rfl (nlt rfl) rfl ?_
        refine jr.goto rfl rfl ?_
        refine jr.pick (ls := [_, _, _, _]) [1, 0, 2, 3] rfl rfl ?_
        exact ih (nM - 1) (by omega) M (i + 1) hC_M ht_M (by omega) (by omega) g_C g_I g_E g_V hy0 (by rw [hy1, ← hy3, frF_s (by omega), if_neg (by omega)]) hy2 hy3 hy4 (by omega)
      · refine jr.aload_n rfl rfl ?_
        have k4 : kd (V).toNat = 13 := by rcases (show V = 16 ∨ V = 17 by omega) with h | h <;> (rw [h]; rfl)
        refine jr.getf (i := 0) (x := V) (v := .ref (V.toNat)) rfl rfl (nlt rfl) rfl (nlt rfl) rfl rfl g_V rfl ?_
        refine jr.iload_n rfl rfl ?_
        have k5 := kxe_13 k4 (i := i) (by omega) (by omega)
        refine jr.aald (c := (xe ((V.toNat)) i)) rfl (Nat.lt_trans (kx_13 k4).1 (by decide)) (kx_13 k4).2 (by decide) (by decide) rfl (by decide) (by omega) (by omega) k5.1 ?_
        refine jr.aload_n rfl rfl ?_
        refine jr.getf (i := 2) (v := .ref 18) rfl rfl (nlt rfl) rfl (nlt rfl) rfl rfl rfl rfl ?_
        refine jr_v rfl rfl (Or.inl rfl) rfl rfl (Nat.lt_trans (kx_1 k5.2).1 (by decide)) (kx_1 k5.2).2 ⟨rfl, Nat.le_of_ble_eq_true rfl, Nat.le_of_ble_eq_true rfl⟩ rfl (jc.deep (c_Flow_beginAs_x hC_M (FR.rfl _ M) k5.2 rfl (xfl_b (by omega) (by omega)) (fun M6 hC_M6 hf_M6 w6_0 => ?_)) (Nat.le_of_ble_eq_true rfl))
        have ht_M6 : FR W_c_Flows_begin_x T M6 := FR.t ht_M hf_M6 (kw_sub rfl)
        refine jr.aload_n rfl rfl ?_
        have e7 : M6 15 0 = V := (hf_M6.g (show kd 15 = 9 from rfl) rfl).trans g_V
        have k8 : kd (V).toNat = 13 := by rcases (show V = 16 ∨ V = 17 by omega) with h | h <;> (rw [h]; rfl)
        refine jr.getf (i := 0) (x := V) (v := .ref (V.toNat)) rfl rfl (nlt rfl) rfl (nlt rfl) rfl rfl e7 rfl ?_
        refine jr.iload_n rfl rfl ?_
        have k9 := kxe_13 k8 (i := i) (by omega) (by omega)
        refine jr.aald (c := (xe ((V.toNat)) i)) rfl (Nat.lt_trans (kx_13 k8).1 (by decide)) (kx_13 k8).2 (by decide) (by decide) rfl (by decide) (by omega) (by omega) k9.1 ?_
        refine jr.aload_n rfl rfl ?_
        refine jr.aload_n rfl rfl ?_
        have e10 : M6 15 4 = I := (hf_M6.g (show kd 15 = 9 from rfl) rfl).trans g_I
        refine jr.getf (i := 4) (x := I) (v := .int (Int32.ofInt (I))) rfl rfl (nlt rfl) rfl (nlt rfl) rfl rfl e10 rfl ?_
        refine jr.iconst rfl ?_
        refine jr.iload_n rfl rfl ?_
        have e12 : M6 3 3 = C := (hf_M6.g (show kd 3 = 18 from rfl) rfl).trans g_C
        obtain ⟨v13, e13⟩ : ∃ z_, M 3 7 = z_ := ⟨_, rfl⟩
        have b13 : 0 ≤ v13 ∧ v13 ≤ 597 := by rw [← e13]; exact (CI.r hC_M (show kd 3 = 18 from rfl) (by decide) 7)
        have e14 : M6 3 7 = v13 := (hf_M6.g (show kd 3 = 18 from rfl) rfl).trans e13
        have k11_S : kd (v13).toNat = 33 := (congrArg (fun z : Int => kd z.toNat) e14).symm.trans (CI.x hC_M6 (show kd 3 = 18 from rfl) 7 rfl (by decide))
        obtain ⟨v15, e15⟩ : ∃ z_, M ((v13.toNat)) 1 = z_ := ⟨_, rfl⟩
        have b15 : (-1) ≤ v15 ∧ v15 ≤ 400 := by rw [← e15]; exact (CI.r hC_M k11_S (by decide) 1)
        have e16 : M6 ((v13.toNat)) 1 = v15 := (hf_M6.g k11_S rfl).trans e15
        refine jr_v rfl rfl (Or.inl rfl) rfl rfl (Nat.lt_trans (kx_1 k9.2).1 (by decide)) (kx_1 k9.2).2 ⟨rfl, Nat.le_of_ble_eq_true rfl, Nat.le_of_ble_eq_true rfl⟩ rfl (jc.deep (c_Flow_takeIn_x hC_M6 (FR.rfl _ M6) k9.2 (by omega) (by omega) (by omega) e12 e14 e16 rfl (HS.fr hy0 (show kd 3 = 18 from rfl) hC_M hf_M6 rfl) (by have h9 := w6_0.1.2.2.1; rw [g_E] at h9; rw [h9]; exact (Decidable.em (E = 6)).elim (fun h => Or.inr (hy4.1 h)) (fun h => Or.inl h)) (fun r11 M11 hC_M11 hf_M11 z11 w11_0 => ?_)) (Nat.le_of_ble_eq_true rfl))
        have ht_M11 : FR W_c_Flows_begin_x T M11 := FR.t ht_M6 hf_M11 (kw_sub rfl)
        refine jr.pop rfl rfl ?_
        refine jr.iload_n rfl rfl ?_
        exact jr.ireturn rfl rfl rfl (q _ _ hC_M11 ht_M11 (by omega) (by have hfr : frF T V.toNat 24 0 = i := (by rw [hy1, ← hy3, frF_s (by omega), if_pos (by omega)]); exact Or.inr (Or.inr ⟨hy2, by rw [hfr]; omega, by rw [hfr], M6, _, by rw [← hy3]; exact w6_0, w11_0⟩)))
theorem c_Flows_begin_x {A : Nat → Option (Nat × (Nat → Int32))} {Q : Option Value → jm → Prop} {f : Int → Int} {N : Int} {T : jm} {M : jm} (hC_M : CI M) (ht_M : FR W_c_Flows_begin_x T M) {y : Int} (h_y : 0 ≤ y ∧ y ≤ 2000000000) {C : Int} (g_C : M 3 3 = C) {I : Int} (g_I : M 15 4 = I) {E : Int} (g_E : M 18 2 = E) {V : Int} (g_V : M 15 0 = V) (p0 : T = M) (p1 : HS M 3 f N) (p2 : (E = 6 → kA f N C I = 8) ∧ (0 ≤ I ∧ I ≤ 11)) (q : ∀ (r : Int) (M' : jm), CI M' → FR W_c_Flows_begin_x T M' → (-6) ≤ r ∧ r ≤ 23 → (BEQ T M' f N C V.toNat I y r) → Q (some (.int (Int32.ofInt r))) M') : jc A 6 87 [.ref (15), .ref (3), .int (Int32.ofInt (y))] M Q := by
  refine jc_of (m := xm_87) rfl (Nat.le_of_ble_eq_true rfl) rfl ?_
  have b_C : 0 ≤ C ∧ C ≤ 12 := by rw [← g_C]; exact (CI.r hC_M (show kd 3 = 18 from rfl) (by decide) 3)
  have b_I : (-2147483648) ≤ I ∧ I ≤ 2147483647 := by rw [← g_I]; exact (CI.r hC_M (show kd 15 = 9 from rfl) (by decide) 4)
  have b_E : (-2147483648) ≤ E ∧ E ≤ 2147483647 := by rw [← g_E]; exact (CI.r hC_M (show kd 18 = 1 from rfl) (by decide) 2)
  have b_V : 16 ≤ V ∧ V ≤ 17 := by rw [← g_V]; exact (CI.r hC_M (show kd 15 = 9 from rfl) (by decide) 0)
  refine jr.aload_n rfl rfl ?_
  refine jr.getf (i := 2) (v := .ref 18) rfl rfl (nlt rfl) rfl (nlt rfl) rfl rfl rfl rfl ?_
  refine jr.getf (i := 2) (x := E) (v := .int (Int32.ofInt (E))) rfl rfl (nlt rfl) rfl (nlt rfl) rfl rfl g_E rfl ?_
  refine jr.bipush rfl (jbp _ (nlt rfl)) ?_
  refine jr.icmp_ne rfl rfl (by first | (refine rgb (by assumption) ?_; exact rfl) | omega) (rgl rfl) (fun h9 => ?_) (fun h9 => ?_)
  · refine jr.aload_n rfl rfl ?_
    refine jr.getf (i := 2) (v := .ref 18) rfl rfl (nlt rfl) rfl (nlt rfl) rfl rfl rfl rfl ?_
    refine jr.getf (i := 2) (x := E) (v := .int (Int32.ofInt (E))) rfl rfl (nlt rfl) rfl (nlt rfl) rfl rfl g_E rfl ?_
    refine jr.iconst rfl ?_
    refine jr.icmp_ne rfl rfl (by first | (refine rgb (by assumption) ?_; exact rfl) | omega) (rgl rfl) (fun h39 => ?_) (fun h39 => ?_)
    · refine jr.iconst rfl ?_
      refine jr.istore_n (ls' := [_, _, _, _]) rfl (nlt rfl) rfl ?_
      refine jr.pick (ls := [_, _, _, _]) [3, 0, 1, 2] rfl rfl ?_
      exact c_Flows_begin_x_L63  q 24 M 0 hC_M ht_M (by omega) (by omega) g_C g_I g_E g_V p1 rfl (by rw [p0, g_E]; exact ⟨(by first | exact (fun h => absurd h (by omega)) | exact (fun h => absurd h (by omega))), (by first | exact (fun h => absurd h (by omega)) | exact (fun h => absurd h (by omega)))⟩) p0.symm p2 (by omega)
    · refine jr.aload_n rfl rfl ?_
      refine jr.aload_n rfl rfl ?_
      refine jr.getf (i := 4) (x := I) (v := .int (Int32.ofInt (I))) rfl rfl (nlt rfl) rfl (nlt rfl) rfl rfl g_I rfl ?_
      refine jr.iconst rfl ?_
      refine jr_v rfl rfl (Or.inl rfl) rfl rfl (nlt rfl) rfl ⟨rfl, Nat.le_of_ble_eq_true rfl, Nat.le_of_ble_eq_true rfl⟩ rfl (jc.deep (c_Headers_valueOf_x hC_M (show kd 3 = 18 from rfl) (by omega) (by omega) g_C p1 (fun r1 z1 w1_0 => ?_)) (Nat.le_of_ble_eq_true rfl))
      skip
      refine jr.ldc2 (x := 8) rfl rfl (by decide) ?_
      refine jr.lcmp_eq rfl rfl rfl (by omega) (by omega) (fun h54 => ?_) (fun h54 => ?_)
      · refine jr.iconst rfl ?_
        refine jr.istore_n (ls' := [_, _, _, _]) rfl (nlt rfl) rfl ?_
        refine jr.pick (ls := [_, _, _, _]) [3, 0, 1, 2] rfl rfl ?_
        exact c_Flows_begin_x_L63  q 24 M 0 hC_M ht_M (by omega) (by omega) g_C g_I g_E g_V p1 rfl (by rw [p0, g_E]; exact ⟨(by first | exact (fun h => absurd h (by omega)) | exact (fun h => absurd h (by omega))), (by first | exact (fun h => absurd h (by omega)) | exact (fun h => by rw [← w1_0]; omega))⟩) p0.symm p2 (by omega)
      · refine jr.bipush rfl (by decide) ?_
        exact jr.ireturn rfl rfl rfl (q _ _ hC_M ht_M (by first | exact rgq rfl | omega) (by rw [p0]; exact Or.inl ⟨(fun h => by have h1 := h.2; rw [g_E] at h1; have h2 := h1 (by omega); rw [← w1_0] at h2; omega), rfl, rfl⟩))
  · refine jr.aload_n rfl rfl ?_
    refine jr.aload_n rfl rfl ?_
    refine jr.getf (i := 4) (x := I) (v := .int (Int32.ofInt (I))) rfl rfl (nlt rfl) rfl (nlt rfl) rfl rfl g_I rfl ?_
    refine jr.iconst rfl ?_
    refine jr_v rfl rfl (Or.inl rfl) rfl rfl (nlt rfl) rfl ⟨rfl, Nat.le_of_ble_eq_true rfl, Nat.le_of_ble_eq_true rfl⟩ rfl (jc.deep (c_Headers_valueOf_x hC_M (show kd 3 = 18 from rfl) (by omega) (by omega) g_C p1 (fun r2 z2 w2_0 => ?_)) (Nat.le_of_ble_eq_true rfl))
    have hv2 : 0 ≤ r2 ∧ r2 ≤ 255 := (by have h9 := (st_v (p2.1 (by omega))).1; rw [← w2_0] at h9; exact h9)
    refine jr.l2i rfl ?_
    refine jr_s rfl rfl (Or.inl rfl) ⟨Nat.le_of_ble_eq_true rfl, Nat.le_of_ble_eq_true rfl⟩ rfl rfl (jc.deep (c_Flow_streamClass_x hC_M (by omega) (fun r3 z3 w3_0 => ?_)) (Nat.le_of_ble_eq_true rfl))
    skip
    refine jr.if_eq rfl rfl (by first | (refine rgb (by assumption) ?_; exact rfl) | omega) (fun h25 => ?_) (fun h25 => ?_)
    · refine jr.aload_n rfl rfl ?_
      refine jr.getf (i := 2) (v := .ref 18) rfl rfl (nlt rfl) rfl (nlt rfl) rfl rfl rfl rfl ?_
      refine jr.getf (i := 2) (x := E) (v := .int (Int32.ofInt (E))) rfl rfl (nlt rfl) rfl (nlt rfl) rfl rfl g_E rfl ?_
      refine jr.iconst rfl ?_
      refine jr.icmp_ne rfl rfl (by first | (refine rgb (by assumption) ?_; exact rfl) | omega) (rgl rfl) (fun h39 => ?_) (fun h39 => ?_)
      · refine jr.iconst rfl ?_
        refine jr.istore_n (ls' := [_, _, _, _]) rfl (nlt rfl) rfl ?_
        refine jr.pick (ls := [_, _, _, _]) [3, 0, 1, 2] rfl rfl ?_
        exact c_Flows_begin_x_L63  q 24 M 0 hC_M ht_M (by omega) (by omega) g_C g_I g_E g_V p1 rfl (by rw [p0, g_E]; exact ⟨(by first | exact (fun h => absurd h (by omega)) | exact (fun h => by unfold tsS; rw [← w2_0, ← w3_0]; omega)), (by first | exact (fun h => absurd h (by omega)) | exact (fun h => absurd h (by omega)))⟩) p0.symm p2 (by omega)
      · exact absurd (by omega) h39
    · refine jr.bipush rfl (by decide) ?_
      exact jr.ireturn rfl rfl rfl (q _ _ hC_M ht_M (by first | exact rgq rfl | omega) (by rw [p0]; exact Or.inl ⟨(fun h => by have h1 := h.1; rw [g_E] at h1; have h2 := h1 (by omega); unfold tsS at h2; rw [← w2_0, ← w3_0] at h2; omega), rfl, rfl⟩))
theorem FND.k {T E : jm} {f : Int → Int} {N C F : Int} (h : FND T E f N C F 1) (h5 : E 15 5 = 0) : (0 ≤ E 15 4 ∧ E 15 4 < C) ∧ E 18 2 = nxk (kA f N C (E 15 4)) ∧ (7 ≤ kA f N C (E 15 4) ∧ kA f N C (E 15 4) ≤ 9) := by
  rcases h with h | h
  · exact absurd h.2.1 (by decide)
  · obtain ⟨h1, -, -, h3, h4⟩ := h
    rcases h4 with h4 | h4
    · exact absurd (h4.2.1.symm.trans h5) (by decide)
    · rw [h3.2]
      refine ⟨kA_in (f := f) (N := N) (C := C) (by have := h1.2.2.2; omega), h4.2.2.1.2, h1.2.2.2⟩
theorem FND.s {T E : jm} {f : Int → Int} {N C F : Int} (h : FND T E f N C F 1) (h5 : E 15 5 = 0) : E 18 2 = 6 → kA f N C (E 15 4) = 8 := by
  have q := FND.k h h5
  intro h6
  rw [q.2.1] at h6
  unfold nxk at h6
  split at h6
  · omega
  · split at h6 <;> omega
theorem feF_r (M : jm) (V : Nat) : ∀ (n : Nat) (i : Int), 0 ≤ i → feF M V n i = -1 ∨ ((i ≤ feF M V n i ∧ feF M V n i < i + n) ∧ sdF M (xe V (feF M V n i)) 18 ≠ -1) := by
  intro n
  induction n with
  | zero => intro i _; exact Or.inl rfl
  | succ n ih =>
    intro i hi
    unfold feF
    by_cases h : sdF M (xe V i) 18 ≠ -1
    · rw [if_pos h]; exact Or.inr ⟨by omega, h⟩
    · rw [if_neg h]
      rcases ih (i + 1) (by omega) with q | q
      · exact Or.inl q
      · exact Or.inr ⟨by omega, q.2⟩
theorem frF_r (M : jm) (V : Nat) : ∀ (n : Nat) (i : Int), 0 ≤ i → frF M V n i = -1 ∨ ((i ≤ frF M V n i ∧ frF M V n i < i + n) ∧ M (xe V (frF M V n i)) 0 = 0) := by
  intro n
  induction n with
  | zero => intro i _; exact Or.inl rfl
  | succ n ih =>
    intro i hi
    unfold frF
    by_cases h : M (xe V i) 0 = 0
    · rw [if_pos h]; exact Or.inr ⟨by omega, h⟩
    · rw [if_neg h]
      rcases ih (i + 1) (by omega) with q | q
      · exact Or.inl q
      · exact Or.inr ⟨by omega, q.2⟩
noncomputable def W_c_Flows_passThrough_x : List (Nat × Nat) := [(1, 0), (1, 1), (1, 2), (1, 5), (1, 6), (1, 12), (1, 13), (1, 15), (2, 1000), (3, 1000), (4, 1000), (5, 1000), (6, 1000), (7, 1000), (8, 1000), (9, 3), (9, 4), (9, 5)]
theorem c_Flows_passThrough_x {A : Nat → Option (Nat × (Nat → Int32))} {Q : Option Value → jm → Prop} {f : Int → Int} {N : Int} {T : jm} {M : jm} (hC_M : CI M) (ht_M : FR W_c_Flows_passThrough_x T M) {y : Int} (h_y : 0 ≤ y ∧ y ≤ 2000000000) {C : Int} (g_C : M 3 3 = C) {F : Int} (g_F : M 3 4 = F) {V : Int} (g_V : M 15 0 = V) (p0 : T = M) (p1 : HS M 3 f N) (q : ∀ (r : Int) (M' : jm), CI M' → FR W_c_Flows_passThrough_x T M' → (-8) ≤ r ∧ r ≤ 23 → (PTQ T M' f N C F V.toNat y r) → Q (some (.int (Int32.ofInt r))) M') : jc A 7 79 [.ref (15), .ref (3), .int (Int32.ofInt (y))] M Q := by
  refine jc_of (m := xm_79) rfl (Nat.le_of_ble_eq_true rfl) rfl ?_
  have b_C : 0 ≤ C ∧ C ≤ 12 := by rw [← g_C]; exact (CI.r hC_M (show kd 3 = 18 from rfl) (by decide) 3)
  have b_F : (-2147483648) ≤ F ∧ F ≤ 2147483647 := by rw [← g_F]; exact (CI.r hC_M (show kd 3 = 18 from rfl) (by decide) 4)
  have b_V : 16 ≤ V ∧ V ≤ 17 := by rw [← g_V]; exact (CI.r hC_M (show kd 15 = 9 from rfl) (by decide) 0)
  refine jr.aload_n rfl rfl ?_
  refine jr.aload_n rfl rfl ?_
  refine jr_v rfl rfl (Or.inl rfl) rfl rfl (nlt rfl) rfl ⟨rfl, Nat.le_of_ble_eq_true rfl, Nat.le_of_ble_eq_true rfl⟩ rfl (jc.deep (c_Flows_findEnds_x hC_M (FR.rfl _ M)  g_C g_F rfl p1 (fun r1 M1 hC_M1 hf_M1 z1 w1_0 => ?_)) (Nat.le_of_ble_eq_true rfl))
  have ht_M1 : FR W_c_Flows_passThrough_x T M1 := FR.t ht_M hf_M1 (kw_sub rfl)
  refine jr.if_ne rfl rfl (by first | (refine rgb (by assumption) ?_; exact rfl) | omega) (fun h5 => ?_) (fun h5 => ?_)
  · have sx5 : (1 : Int) ≤ r1 := by omega
    refine jr.aload_n rfl rfl ?_
    have e3 : M1 15 0 = V := (hf_M1.g (show kd 15 = 9 from rfl) rfl).trans g_V
    refine jr_v rfl rfl (Or.inl rfl) rfl rfl (nlt rfl) rfl ⟨rfl, Nat.le_of_ble_eq_true rfl, Nat.le_of_ble_eq_true rfl⟩ rfl (jc.deep (c_Flows_flowOfEnds_x hC_M1  e3 (fun r2 z2 w2_0 => ?_)) (Nat.le_of_ble_eq_true rfl))
    have hfr := feF_r M1 V.toNat 24 0 (by decide)
    rw [← w2_0] at hfr
    refine jr.istore_n (ls' := [_, _, _, _]) rfl (nlt rfl) rfl ?_
    refine jr.aload_n rfl rfl ?_
    obtain ⟨v4, e4⟩ : ∃ z_, M1 15 5 = z_ := ⟨_, rfl⟩
    have b4 : 0 ≤ v4 ∧ v4 ≤ 1 := by rw [← e4]; exact (CI.r hC_M1 (show kd 15 = 9 from rfl) (by decide) 5)
    refine jr.getf (i := 5) (x := v4) (v := .int (Int32.ofInt (v4))) rfl rfl (nlt rfl) rfl (nlt rfl) rfl rfl e4 rfl ?_
    refine jr.if_eq rfl rfl (by first | (refine rgb (by assumption) ?_; exact rfl) | omega) (fun h20 => ?_) (fun h20 => ?_)
    · refine jr.iload_n rfl rfl ?_
      refine jr.iconst rfl ?_
      refine jr.icmp_ne rfl rfl (by first | (refine rgb (by assumption) ?_; exact rfl) | omega) (rgl rfl) (fun h37 => ?_) (fun h37 => ?_)
      · have sx37 : (0 : Int) ≤ r2 := by omega
        clear h37
        refine jr.aload_n rfl rfl ?_
        have k5 : kd (V).toNat = 13 := by rcases (show V = 16 ∨ V = 17 by omega) with h | h <;> (rw [h]; rfl)
        refine jr.getf (i := 0) (x := V) (v := .ref (V.toNat)) rfl rfl (nlt rfl) rfl (nlt rfl) rfl rfl e3 rfl ?_
        refine jr.iload_n rfl rfl ?_
        have k6 := kxe_13 k5 (i := r2) (by omega) (by omega)
        refine jr.aald (c := (xe ((V.toNat)) r2)) rfl (Nat.lt_trans (kx_13 k5).1 (by decide)) (kx_13 k5).2 (by decide) (by decide) rfl (by decide) (by omega) (by omega) k6.1 ?_
        refine jr.aload_n rfl rfl ?_
        refine jr.aload_n rfl rfl ?_
        obtain ⟨v7, e7⟩ : ∃ z_, M1 15 4 = z_ := ⟨_, rfl⟩
        have b7 : (-2147483648) ≤ v7 ∧ v7 ≤ 2147483647 := by rw [← e7]; exact (CI.r hC_M1 (show kd 15 = 9 from rfl) (by decide) 4)
        refine jr.getf (i := 4) (x := v7) (v := .int (Int32.ofInt (v7))) rfl rfl (nlt rfl) rfl (nlt rfl) rfl rfl e7 rfl ?_
        refine jr.aload_n rfl rfl ?_
        have k8 : kd (V).toNat = 13 := by rcases (show V = 16 ∨ V = 17 by omega) with h | h <;> (rw [h]; rfl)
        refine jr.getf (i := 0) (x := V) (v := .ref (V.toNat)) rfl rfl (nlt rfl) rfl (nlt rfl) rfl rfl e3 rfl ?_
        refine jr.iload_n rfl rfl ?_
        have k9 := kxe_13 k8 (i := r2) (by omega) (by omega)
        refine jr.aald (c := (xe ((V.toNat)) r2)) rfl (Nat.lt_trans (kx_13 k8).1 (by decide)) (kx_13 k8).2 (by decide) (by decide) rfl (by decide) (by omega) (by omega) k9.1 ?_
        refine jr.aload_n rfl rfl ?_
        refine jr.getf (i := 2) (v := .ref 18) rfl rfl (nlt rfl) rfl (nlt rfl) rfl rfl rfl rfl ?_
        refine jr_v rfl rfl (Or.inl rfl) rfl rfl (Nat.lt_trans (kx_1 k9.2).1 (by decide)) (kx_1 k9.2).2 ⟨rfl, Nat.le_of_ble_eq_true rfl, Nat.le_of_ble_eq_true rfl⟩ rfl (jc.deep (c_Flow_sideOf_x hC_M1 k9.2 (show kd 18 = 1 from rfl) (fun r10 z10 w10_0 => ?_)) (Nat.le_of_ble_eq_true rfl))
        have hsd : 0 ≤ r10 ∧ r10 ≤ 1 := (by have h9 := (hfr.resolve_left (by omega)).2; rw [← w10_0] at h9; omega)
        have hin : 0 ≤ v7 ∧ v7 ≤ 11 := (by have h7 := (FND.k (show FND M M1 f N C F 1 from by have h9 := w1_0; rw [show r1 = 1 from by omega] at h9; exact h9) (by rw [e4]; omega)).1; rw [e7] at h7; omega)
        refine jr.iload_n rfl rfl ?_
        have e12 : M1 3 3 = C := (hf_M1.g (show kd 3 = 18 from rfl) rfl).trans g_C
        obtain ⟨v13, e13⟩ : ∃ z_, M 3 7 = z_ := ⟨_, rfl⟩
        have b13 : 0 ≤ v13 ∧ v13 ≤ 597 := by rw [← e13]; exact (CI.r hC_M (show kd 3 = 18 from rfl) (by decide) 7)
        have e14 : M1 3 7 = v13 := (hf_M1.g (show kd 3 = 18 from rfl) rfl).trans e13
        have k11_S : kd (v13).toNat = 33 := (congrArg (fun z : Int => kd z.toNat) e14).symm.trans (CI.x hC_M1 (show kd 3 = 18 from rfl) 7 rfl (by decide))
        obtain ⟨v15, e15⟩ : ∃ z_, M ((v13.toNat)) 1 = z_ := ⟨_, rfl⟩
        have b15 : (-1) ≤ v15 ∧ v15 ≤ 400 := by rw [← e15]; exact (CI.r hC_M k11_S (by decide) 1)
        have e16 : M1 ((v13.toNat)) 1 = v15 := (hf_M1.g k11_S rfl).trans e15
        refine jr_v rfl rfl (Or.inl rfl) rfl rfl (Nat.lt_trans (kx_1 k6.2).1 (by decide)) (kx_1 k6.2).2 ⟨rfl, Nat.le_of_ble_eq_true rfl, Nat.le_of_ble_eq_true rfl⟩ rfl (jc.deep (c_Flow_takeIn_x hC_M1 (FR.rfl _ M1) k6.2 (by omega) (by omega) (by omega) e12 e14 e16 rfl (HS.fr p1 (show kd 3 = 18 from rfl) hC_M hf_M1 rfl) (by have h8 := FND.s (show FND M M1 f N C F 1 from by have h9 := w1_0; rw [show r1 = 1 from by omega] at h9; exact h9) (by rw [e4]; omega); have h6 := (hfr.resolve_left (by omega)).2; have h5 := sd_r M1 (xe V.toNat r2) 18; rw [e7] at h8; omega) (fun r11 M11 hC_M11 hf_M11 z11 w11_0 => ?_)) (Nat.le_of_ble_eq_true rfl))
        have ht_M11 : FR W_c_Flows_passThrough_x T M11 := FR.t ht_M1 hf_M11 (kw_sub rfl)
        refine jr.istore (ls' := [_, _, _, _, _]) rfl (nlt rfl) rfl ?_
        refine jr.iload rfl rfl ?_
        refine jr.if_ne rfl rfl (by first | (refine rgb (by assumption) ?_; exact rfl) | omega) (fun h79 => ?_) (fun h79 => ?_)
        · have sx79 : r11 ≤ (-1 : Int) := by omega
          clear h79
          refine jr.iload rfl rfl ?_
          exact jr.ireturn rfl rfl rfl (q _ _ hC_M11 ht_M11 (by omega) (by rw [p0]; exact (by have hf := w2_0; exact Or.inr ⟨M1, (by have h9 := w1_0; rw [show r1 = 1 from by omega] at h9; exact h9), Or.inr (Or.inr ⟨by rw [e4]; omega, by rw [← hf]; omega, _, by rw [← hf, ← w10_0, e7]; exact w11_0, by rw [← hf]; first | (rw [if_pos (by omega)]) | (rw [if_neg (by omega)])⟩)⟩)))
        · refine jr.iload_n rfl rfl ?_
          refine jr.goto rfl rfl ?_
          exact jr.ireturn rfl rfl rfl (q _ _ hC_M11 ht_M11 (by omega) (by rw [p0]; exact (by have hf := w2_0; exact Or.inr ⟨M1, (by have h9 := w1_0; rw [show r1 = 1 from by omega] at h9; exact h9), Or.inr (Or.inr ⟨by rw [e4]; omega, by rw [← hf]; omega, _, by rw [← hf, ← w10_0, e7]; exact w11_0, by rw [← hf]; first | (rw [if_pos (by omega)]) | (rw [if_neg (by omega)])⟩)⟩)))
      · refine jr.aload_n rfl rfl ?_
        refine jr.aload_n rfl rfl ?_
        refine jr.iload_n rfl rfl ?_
        have e18 : M1 3 3 = C := (hf_M1.g (show kd 3 = 18 from rfl) rfl).trans g_C
        obtain ⟨v19, e19⟩ : ∃ z_, M1 15 4 = z_ := ⟨_, rfl⟩
        have b19 : (-2147483648) ≤ v19 ∧ v19 ≤ 2147483647 := by rw [← e19]; exact (CI.r hC_M1 (show kd 15 = 9 from rfl) (by decide) 4)
        obtain ⟨v20, e20⟩ : ∃ z_, M1 18 2 = z_ := ⟨_, rfl⟩
        have b20 : (-2147483648) ≤ v20 ∧ v20 ≤ 2147483647 := by rw [← e20]; exact (CI.r hC_M1 (show kd 18 = 1 from rfl) (by decide) 2)
        refine jr_v rfl rfl (Or.inl rfl) rfl rfl (nlt rfl) rfl ⟨rfl, Nat.le_of_ble_eq_true rfl, Nat.le_of_ble_eq_true rfl⟩ rfl (jc.deep (c_Flows_begin_x hC_M1 (FR.rfl _ M1) (by omega) e18 e19 e20 e3 rfl (HS.fr p1 (show kd 3 = 18 from rfl) hC_M hf_M1 rfl) (by have h8 := FND.s (show FND M M1 f N C F 1 from by have h9 := w1_0; rw [show r1 = 1 from by omega] at h9; exact h9) (by rw [e4]; omega); have h7 := (FND.k (show FND M M1 f N C F 1 from by have h9 := w1_0; rw [show r1 = 1 from by omega] at h9; exact h9) (by rw [e4]; omega)).1; rw [e20, e19] at h8; rw [e19] at h7; exact ⟨h8, by omega, by omega⟩) (fun r17 M17 hC_M17 hf_M17 z17 w17_0 => ?_)) (Nat.le_of_ble_eq_true rfl))
        have ht_M17 : FR W_c_Flows_passThrough_x T M17 := FR.t ht_M1 hf_M17 (kw_sub rfl)
        exact jr.ireturn rfl rfl rfl (q _ _ hC_M17 ht_M17 (by omega) (by rw [p0]; exact (by have hf := w2_0; exact Or.inr ⟨M1, (by have h9 := w1_0; rw [show r1 = 1 from by omega] at h9; exact h9), Or.inr (Or.inl ⟨by rw [e4]; omega, by rw [← hf]; omega, by rw [e19]; exact w17_0⟩)⟩)))
    · have sx20 : (1 : Int) ≤ v4 := by omega
      clear h20
      refine jr.iload_n rfl rfl ?_
      refine jr.iconst rfl ?_
      refine jr.icmp_ne rfl rfl (by first | (refine rgb (by assumption) ?_; exact rfl) | omega) (rgl rfl) (fun h25 => ?_) (fun h25 => ?_)
      · have sx25 : (0 : Int) ≤ r2 := by omega
        clear h25
        refine jr.iload_n rfl rfl ?_
        exact jr.ireturn rfl rfl rfl (q _ _ hC_M1 ht_M1 (by omega) (by rw [p0]; exact (by have hf := w2_0; exact Or.inr ⟨M1, (by have h9 := w1_0; rw [show r1 = 1 from by omega] at h9; exact h9), Or.inl ⟨by rw [e4]; omega, by rw [← hf]; first | (rw [if_pos (by omega)]) | (rw [if_neg (by omega)]), rfl⟩⟩)))
      · refine jr.bipush rfl (by decide) ?_
        refine jr.goto rfl rfl ?_
        exact jr.ireturn rfl rfl rfl (q _ _ hC_M1 ht_M1 (by first | exact rgq rfl | omega) (by rw [p0]; exact (by have hf := w2_0; exact Or.inr ⟨M1, (by have h9 := w1_0; rw [show r1 = 1 from by omega] at h9; exact h9), Or.inl ⟨by rw [e4]; omega, by rw [← hf]; first | (rw [if_pos (by omega)]) | (rw [if_neg (by omega)]), rfl⟩⟩)))
  · refine jr.bipush rfl (by decide) ?_
    exact jr.ireturn rfl rfl rfl (q _ _ hC_M1 ht_M1 (by first | exact rgq rfl | omega) (by rw [p0]; exact (Or.inl ⟨by have h9 := w1_0; rw [show r1 = 0 from by omega] at h9; exact h9, rfl⟩)))
noncomputable def W_c_PacketWall_track_x : List (Nat × Nat) := [(1, 0), (1, 1), (1, 2), (1, 5), (1, 6), (1, 12), (1, 13), (1, 15), (2, 1000), (3, 1000), (4, 1000), (5, 1000), (6, 1000), (7, 1000), (8, 1000), (9, 3), (9, 4), (9, 5), (18, 3), (18, 4), (18, 5), (18, 6), (18, 7), (19, 1000), (20, 1000), (21, 1000)]
theorem c_PacketWall_track_x {A : Nat → Option (Nat × (Nat → Int32))} {Q : Option Value → jm → Prop} {F : Int → Int → Int} {T : jm} {M : jm} (hC_M : CI M) (ht_M : FR W_c_PacketWall_track_x T M) {x : Int} (h_x : (-2147483648) ≤ x ∧ x ≤ 2147483647) {Z : Int} (g_Z : M 0 8 = Z) {V : Int} (g_V : M 15 0 = V) (p0 : T = M) (p1 : PBS M F) (p2 : 0 ≤ Z ∧ Z ≤ 2000000000) (q : ∀ (r : Int) (M' : jm), CI M' → FR W_c_PacketWall_track_x T M' → (-8) ≤ r ∧ r ≤ 23 → (((x < 0 ∨ 23 < x ∨ T (xe 2 x) 1 = -1) ∧ r = -2 ∧ M' = T) ∨ (((0 ≤ x ∧ x ≤ 23) ∧ T (xe 2 x) 1 ≠ -1) ∧ ∃ (C : Int) (H : jm), HE (F x) (T (xe 2 x) 1) C ∧ (H 3 4 = 0 ↔ hX (F x) (T (xe 2 x) 1) C = -1) ∧ FR W_c_Headers_readAll_x T H ∧ PTQ H M' (F x) (T (xe 2 x) 1) C (H 3 4) V.toNat Z r)) → Q (some (.int (Int32.ofInt r))) M') : jc A 8 19 [.ref (0), .int (Int32.ofInt (x))] M Q := by
  refine jc_of (m := xm_19) rfl (Nat.le_of_ble_eq_true rfl) rfl ?_
  have b_Z : (-2147483648) ≤ Z ∧ Z ≤ 2147483647 := by rw [← g_Z]; exact (CI.r hC_M (show kd 0 = 35 from rfl) (by decide) 8)
  have b_V : 16 ≤ V ∧ V ≤ 17 := by rw [← g_V]; exact (CI.r hC_M (show kd 15 = 9 from rfl) (by decide) 0)
  refine jr.aload_n rfl rfl ?_
  refine jr.iload_n rfl rfl ?_
  refine jr_v rfl rfl (Or.inl rfl) rfl rfl (nlt rfl) rfl ⟨rfl, Nat.le_of_ble_eq_true rfl, Nat.le_of_ble_eq_true rfl⟩ rfl (jc.deep (c_PacketWall_isPacket_x hC_M (by omega) (fun r1 z1 w1_0 w1_1 => ?_)) (Nat.le_of_ble_eq_true rfl))
  refine jr.if_ne rfl rfl (by first | (refine rgb (by assumption) ?_; exact rfl) | omega) (fun h5 => ?_) (fun h5 => ?_)
  · have sx5 : (1 : Int) ≤ r1 := by omega
    clear h5
    refine jr.aload_n rfl rfl ?_
    refine jr.getf (i := 3) (v := .ref 3) rfl rfl (nlt rfl) rfl (nlt rfl) rfl rfl rfl rfl ?_
    refine jr.aload_n rfl rfl ?_
    refine jr.getf (i := 2) (v := .ref 2) rfl rfl (nlt rfl) rfl (nlt rfl) rfl rfl rfl rfl ?_
    refine jr.iload_n rfl rfl ?_
    have k2 := kxe_42 (a := 2) rfl (i := x) (by omega) (by omega)
    refine jr.aald (c := (xe 2 x)) rfl (by decide) rfl (by decide) (by decide) rfl (by decide) (by omega) (by omega) k2.1 ?_
    obtain ⟨v4, e4⟩ : ∃ z_, M ((xe 2 x)) 1 = z_ := ⟨_, rfl⟩
    have b4 : (-1) ≤ v4 ∧ v4 ≤ 400 := by rw [← e4]; exact (CI.r hC_M k2.2 (by decide) 1)
    refine jr_v rfl rfl (Or.inl rfl) rfl rfl (nlt rfl) rfl ⟨rfl, Nat.le_of_ble_eq_true rfl, Nat.le_of_ble_eq_true rfl⟩ rfl (jc.deep (c_Headers_readAll_x hC_M (FR.rfl _ M) (show kd 3 = 18 from rfl) k2.2 e4 (p1 x (by omega) (by omega)) (fun M3 hC_M3 hf_M3 w3_0 w3_1 w3_2 => ?_)) (Nat.le_of_ble_eq_true rfl))
    have ht_M3 : FR W_c_PacketWall_track_x T M3 := FR.t ht_M hf_M3 (kw_sub rfl)
    refine jr.aload_n rfl rfl ?_
    refine jr.getf (i := 9) (v := .ref 15) rfl rfl (nlt rfl) rfl (nlt rfl) rfl rfl rfl rfl ?_
    refine jr.aload_n rfl rfl ?_
    refine jr.getf (i := 3) (v := .ref 3) rfl rfl (nlt rfl) rfl (nlt rfl) rfl rfl rfl rfl ?_
    refine jr.aload_n rfl rfl ?_
    have e5 : M3 0 8 = Z := (hf_M3.g (show kd 0 = 35 from rfl) rfl).trans g_Z
    refine jr.getf (i := 8) (x := Z) (v := .int (Int32.ofInt (Z))) rfl rfl (nlt rfl) rfl (nlt rfl) rfl rfl e5 rfl ?_
    obtain ⟨v7, e7⟩ : ∃ z_, M3 3 3 = z_ := ⟨_, rfl⟩
    have b7 : 0 ≤ v7 ∧ v7 ≤ 12 := by rw [← e7]; exact (CI.r hC_M3 (show kd 3 = 18 from rfl) (by decide) 3)
    obtain ⟨v8, e8⟩ : ∃ z_, M3 3 4 = z_ := ⟨_, rfl⟩
    have b8 : (-2147483648) ≤ v8 ∧ v8 ≤ 2147483647 := by rw [← e8]; exact (CI.r hC_M3 (show kd 3 = 18 from rfl) (by decide) 4)
    have e9 : M3 15 0 = V := (hf_M3.g (show kd 15 = 9 from rfl) rfl).trans g_V
    refine jr_v rfl rfl (Or.inl rfl) rfl rfl (nlt rfl) rfl ⟨rfl, Nat.le_of_ble_eq_true rfl, Nat.le_of_ble_eq_true rfl⟩ rfl (jc.deep (c_Flows_passThrough_x hC_M3 (FR.rfl _ M3) (by omega) e7 e8 e9 rfl ((w3_1.resolve_left (fun h => by omega)).2) (fun r6 M6 hC_M6 hf_M6 z6 w6_0 => ?_)) (Nat.le_of_ble_eq_true rfl))
    have ht_M6 : FR W_c_PacketWall_track_x T M6 := FR.t ht_M3 hf_M6 (kw_sub rfl)
    exact jr.ireturn rfl rfl rfl (q _ _ hC_M6 ht_M6 (by omega) (Or.inr ⟨by rw [p0]; omega, by rw [p0, e4]; exact ⟨v7, M3, (by have hq := HQ.e ((w3_1.resolve_left (fun h => by omega)).2).2.2.2; rw [e7] at hq; exact hq), ⟨fun h => hxc_z ((w3_1.resolve_left (fun h => by omega)).2) e7 h, fun h => Decidable.byContradiction (fun u => hxc_n ((w3_1.resolve_left (fun h => by omega)).2) e7 u h)⟩, hf_M3, by rw [e8]; exact w6_0⟩⟩))
  · refine jr.bipush rfl (by decide) ?_
    exact jr.ireturn rfl rfl rfl (q _ _ hC_M ht_M (by first | exact rgq rfl | omega) (Or.inl ⟨by rw [p0]; omega, by omega, p0.symm⟩))
end
