section
theorem c_Flows_rewrite_x {A : Nat → Option (Nat × (Nat → Int32))} {Q : Option Value → jm → Prop} {f : Int → Int} {N : Int} {T : jm} {M : jm} (hC_M : CI M) (ht_M : FR W_c_Flows_rewrite_x T M) {C : Int} (g_C : M 3 3 = C) {F : Int} (g_F : M 3 4 = F) {S : Int} (g_S : M 3 7 = S) {V : Int} (g_V : M 15 0 = V) (p0 : T = M) (p1 : HS M 3 f N) (q : ∀ (r : Int) (M' : jm), CI M' → FR W_c_Flows_rewrite_x T M' → (-4) ≤ r ∧ r ≤ 1 → (RWQ T M' f N C F V.toNat S r) → Q (some (.int (Int32.ofInt r))) M') : jc A 6 82 [.ref (15), .ref (3)] M Q := by
  refine jc_of (m := xm_82) rfl (Nat.le_of_ble_eq_true rfl) rfl ?_
  have b_C : 0 ≤ C ∧ C ≤ 12 := by rw [← g_C]; exact (CI.r hC_M (show kd 3 = 18 from rfl) (by decide) 3)
  have b_F : (-2147483648) ≤ F ∧ F ≤ 2147483647 := by rw [← g_F]; exact (CI.r hC_M (show kd 3 = 18 from rfl) (by decide) 4)
  have k_S : kd S.toNat = 33 := (congrArg (fun z : Int => kd z.toNat) g_S).symm.trans (CI.x hC_M (show kd 3 = 18 from rfl) 7 rfl (by decide))
  have b_V : 16 ≤ V ∧ V ≤ 17 := by rw [← g_V]; exact (CI.r hC_M (show kd 15 = 9 from rfl) (by decide) 0)
  refine jr.aload_n rfl rfl ?_
  refine jr.aload_n rfl rfl ?_
  refine jr_v rfl rfl (Or.inl rfl) rfl rfl (by decide) rfl ⟨rfl, Nat.le_of_ble_eq_true rfl, Nat.le_of_ble_eq_true rfl⟩ rfl (jc.deep (c_Flows_findEnds_x hC_M (FR.rfl _ M)  g_C g_F rfl p1 (fun r1 M1 hC_M1 hf_M1 z1 w1_0 => ?_)) (by decide))
  have ht_M1 : FR W_c_Flows_rewrite_x T M1 := FR.t ht_M hf_M1 (kw_sub rfl)
  refine jr.if_eq rfl rfl (by omega) (fun h5 => ?_) (fun h5 => ?_)
  · refine jr.bipush rfl (by decide) ?_
    exact jr.ireturn rfl rfl rfl (q _ _ hC_M1 ht_M1 (by omega) (by rw [p0]; exact Or.inl ⟨by have h9 := w1_0; rw [show r1 = 0 from by omega] at h9; exact h9, rfl⟩))
  · have sx5 : (1 : Int) ≤ r1 := by omega
    clear h5
    refine jr.aload_n rfl rfl ?_
    obtain ⟨v2, e2⟩ : ∃ z_, M1 15 5 = z_ := ⟨_, rfl⟩
    have b2 : 0 ≤ v2 ∧ v2 ≤ 1 := by rw [← e2]; exact (CI.r hC_M1 (show kd 15 = 9 from rfl) (by decide) 5)
    refine jr.getf (i := 5) (x := v2) (v := .int (Int32.ofInt (v2))) rfl rfl (by decide) rfl (by decide) rfl rfl e2 rfl ?_
    refine jr.if_eq rfl rfl (by omega) (fun h12 => ?_) (fun h12 => ?_)
    · refine jr.aload_n rfl rfl ?_
      have e4 : M1 15 0 = V := (hf_M1.g (show kd 15 = 9 from rfl) rfl).trans g_V
      refine jr_v rfl rfl (Or.inl rfl) rfl rfl (by decide) rfl ⟨rfl, Nat.le_of_ble_eq_true rfl, Nat.le_of_ble_eq_true rfl⟩ rfl (jc.deep (c_Flows_flowOfEnds_x hC_M1  e4 (fun r3 z3 w3_0 => ?_)) (by decide))
      have hfr := feF_r M1 V.toNat 24 0 (by decide)
      rw [← w3_0] at hfr
      refine jr.istore_n (ls' := [_, _, _]) rfl (by decide) rfl ?_
      refine jr.iload_n rfl rfl ?_
      refine jr.iconst rfl ?_
      refine jr.icmp_eq rfl rfl (by omega) (by omega) (fun h25 => ?_) (fun h25 => ?_)
      · refine jr.bipush rfl (by decide) ?_
        exact jr.ireturn rfl rfl rfl (q _ _ hC_M1 ht_M1 (by omega) (by rw [p0]; exact Or.inr ⟨M1, (show FND M M1 f N C F 1 from by have h9 := w1_0; rw [show r1 = 1 from by omega] at h9; exact h9), Or.inr (Or.inl ⟨by rw [e2]; omega, by rw [← w3_0]; exact Or.inl (by omega), rfl, rfl⟩)⟩))
      · have sx25 : (0 : Int) ≤ r3 := by omega
        clear h25
        refine jr.aload_n rfl rfl ?_
        have k5 : kd (V).toNat = 13 := by rcases (show V = 16 ∨ V = 17 by omega) with h | h <;> (rw [h]; rfl)
        refine jr.getf (i := 0) (x := V) (v := .ref (V.toNat)) rfl rfl (by decide) rfl (by decide) rfl rfl e4 rfl ?_
        refine jr.iload_n rfl rfl ?_
        have k6 := kxe_13 k5 (i := r3) (by omega) (by omega)
        refine jr.aald (c := (xe ((V.toNat)) r3)) rfl (Nat.lt_trans (kx_13 k5).1 (by decide)) (kx_13 k5).2 (by decide) (by decide) rfl (by decide) (by omega) (by omega) k6.1 ?_
        obtain ⟨v7, e7⟩ : ∃ z_, M ((xe ((V.toNat)) r3)) 13 = z_ := ⟨_, rfl⟩
        have b7 : (-2147483648) ≤ v7 ∧ v7 ≤ 2147483647 := by rw [← e7]; exact (CI.r hC_M k6.2 (by decide) 13)
        have e8 : M1 ((xe ((V.toNat)) r3)) 13 = v7 := (hf_M1.g k6.2 rfl).trans e7
        refine jr.getf (i := 13) (x := v7) (v := .int (Int32.ofInt (v7))) rfl rfl (Nat.lt_trans (kx_1 k6.2).1 (by decide)) (kx_1 k6.2).2 (by decide) rfl rfl e8 rfl ?_
        refine jr.iconst rfl ?_
        refine jr.icmp_ne rfl rfl (by omega) (by omega) (fun h38 => ?_) (fun h38 => ?_)
        · refine jr.aload_n rfl rfl ?_
          have k9 : kd (V).toNat = 13 := by rcases (show V = 16 ∨ V = 17 by omega) with h | h <;> (rw [h]; rfl)
          refine jr.getf (i := 0) (x := V) (v := .ref (V.toNat)) rfl rfl (by decide) rfl (by decide) rfl rfl e4 rfl ?_
          refine jr.iload_n rfl rfl ?_
          have k10 := kxe_13 k9 (i := r3) (by omega) (by omega)
          refine jr.aald (c := (xe ((V.toNat)) r3)) rfl (Nat.lt_trans (kx_13 k9).1 (by decide)) (kx_13 k9).2 (by decide) (by decide) rfl (by decide) (by omega) (by omega) k10.1 ?_
          refine jr.astore_n (ls' := [_, _, _, _]) rfl (by decide) rfl ?_
          refine jr.aload_n rfl rfl ?_
          refine jr.aload_n rfl rfl ?_
          refine jr.getf (i := 2) (v := .ref 18) rfl rfl (by decide) rfl (by decide) rfl rfl rfl rfl ?_
          refine jr_v rfl rfl (Or.inl rfl) rfl rfl (Nat.lt_trans (kx_1 k10.2).1 (by decide)) (kx_1 k10.2).2 ⟨rfl, Nat.le_of_ble_eq_true rfl, Nat.le_of_ble_eq_true rfl⟩ rfl (jc.deep (c_Flow_sideOf_x hC_M1 k10.2 (show kd 18 = 1 from rfl) (fun r11 z11 w11_0 => ?_)) (by decide))
          obtain ⟨v12, e12⟩ : ∃ z_, M1 15 4 = z_ := ⟨_, rfl⟩
          have b12 : (-2147483648) ≤ v12 ∧ v12 ≤ 2147483647 := by rw [← e12]; exact (CI.r hC_M1 (show kd 15 = 9 from rfl) (by decide) 4)
          obtain ⟨v13, e13⟩ : ∃ z_, M1 15 3 = z_ := ⟨_, rfl⟩
          have b13 : (-2147483648) ≤ v13 ∧ v13 ≤ 2147483647 := by rw [← e13]; exact (CI.r hC_M1 (show kd 15 = 9 from rfl) (by decide) 3)
          have hsd : 0 ≤ r11 ∧ r11 ≤ 1 := (by have h9 := (hfr.resolve_left (by omega)).2; rw [← w11_0] at h9; omega)
          have hin := FND.n (show FND M M1 f N C F 1 from by have h9 := w1_0; rw [show r1 = 1 from by omega] at h9; exact h9) (by rw [e2]; omega) (by omega)
          rw [e13, e12] at hin
          refine jr.istore (ls' := [_, _, _, _, _]) rfl (by decide) rfl ?_
          refine jr.aload_n rfl rfl ?_
          have e14 : M1 3 7 = S := (hf_M1.g (show kd 3 = 18 from rfl) rfl).trans g_S
          refine jr.getf (i := 7) (x := S) (v := .ref (S.toNat)) rfl rfl (by decide) rfl (by decide) rfl rfl e14 rfl ?_
          have k16 := kf_33_0 k_S
          refine jr.getf (i := 0) (v := .ref ((S.toNat) + 1)) rfl rfl (Nat.lt_trans (kx_33 k_S).1 (by decide)) (kx_33 k_S).2 (by decide) rfl rfl rfl (jval_ref rfl k16.1) ?_
          refine jr.astore (ls' := [_, _, _, _, _, _]) rfl (by decide) rfl ?_
          refine jr.aload_n rfl rfl ?_
          refine jr.aload_n rfl rfl ?_
          refine jr.getf (i := 3) (x := v13) (v := .int (Int32.ofInt (v13))) rfl rfl (by decide) rfl (by decide) rfl rfl e13 rfl ?_
          have e18 : M1 3 3 = C := (hf_M1.g (show kd 3 = 18 from rfl) rfl).trans g_C
          refine jr_v rfl rfl (Or.inl rfl) rfl rfl (by decide) rfl ⟨rfl, Nat.le_of_ble_eq_true rfl, Nat.le_of_ble_eq_true rfl⟩ rfl (jc.deep (c_Headers_placeAt_x hC_M1 (show kd 3 = 18 from rfl) (by omega) e18 (HS.fr p1 (show kd 3 = 18 from rfl) hC_M hf_M1 rfl) (fun r17 z17 w17_0 => ?_)) (by decide))
          refine jr.iload rfl rfl ?_
          refine jr.if_ne rfl rfl (by omega) (fun h80 => ?_) (fun h80 => ?_)
          · have sx80 : (1 : Int) ≤ r11 := by omega
            clear h80
            refine jr.bipush rfl (by decide) ?_
            refine jr.iadd rfl ?_
            refine jr.istore (ls' := [_, _, _, _, _, _, _]) rfl (by decide) rfl ?_
            refine jr.aload_n rfl rfl ?_
            refine jr.aload_n rfl rfl ?_
            refine jr.getf (i := 4) (x := v12) (v := .int (Int32.ofInt (v12))) rfl rfl (by decide) rfl (by decide) rfl rfl e12 rfl ?_
            refine jr_v rfl rfl (Or.inl rfl) rfl rfl (by decide) rfl ⟨rfl, Nat.le_of_ble_eq_true rfl, Nat.le_of_ble_eq_true rfl⟩ rfl (jc.deep (c_Headers_placeAt_x hC_M1 (show kd 3 = 18 from rfl) (by omega) e18 (HS.fr p1 (show kd 3 = 18 from rfl) hC_M hf_M1 rfl) (fun r19 z19 w19_0 => ?_)) (by decide))
            refine jr.iload rfl rfl ?_
            refine jr.if_ne rfl rfl (by omega) (fun h103 => ?_) (fun h103 => ?_)
            · refine jr.iconst rfl ?_
              refine jr.iadd rfl ?_
              refine jr.istore (ls' := [_, _, _, _, _, _, _, _]) rfl (by decide) rfl ?_
              refine jr.aload rfl rfl ?_
              refine jr.iload rfl rfl ?_
              refine jr.iconst rfl ?_
              refine jr.iload rfl rfl ?_
              refine jr.if_ne rfl rfl (by omega) (fun h121 => ?_) (fun h121 => ?_)
              · refine jr.aload_n rfl rfl ?_
                have k20 := kf_1_3 k10.2
                refine jr.getf (i := 3) (v := .ref ((xe ((V.toNat)) r3) + 1)) rfl rfl (Nat.lt_trans (kx_1 k10.2).1 (by decide)) (kx_1 k10.2).2 (by decide) rfl rfl rfl (jval_ref rfl k20.1) ?_
                refine jr.iconst rfl ?_
                obtain ⟨v21, e21⟩ : ∃ z_, M1 (((xe ((V.toNat)) r3) + 1)) 0 = z_ := ⟨_, rfl⟩
                have b21 : (-9223372036854775808) ≤ v21 ∧ v21 ≤ 9223372036854775807 := by rw [← e21]; exact (CI.r hC_M1 k20.2 (by decide) 0)
                refine jr.lald (i := 0) (x := v21) rfl (Nat.lt_trans (kx_2 k20.2).1 (by decide)) (kx_2 k20.2).2 (by decide) (by omega) (by omega) e21 ?_
                refine jr_s rfl rfl (Or.inr rfl) ⟨Nat.le_of_ble_eq_true rfl, Nat.le_of_ble_eq_true rfl⟩ rfl rfl (jc.deep (c_PacketWall_putNumber_pf hC_M1 (FR.rfl _ M1) k16.2 (by omega) (by omega) (by omega) rfl (fun M22 hC_M22 hf_M22 w22_0 => ?_)) (by decide))
                have ht_M22 : FR W_c_Flows_rewrite_x T M22 := FR.t ht_M1 hf_M22 (kw_sub rfl)
                refine jr.aload rfl rfl ?_
                refine jr.iload rfl rfl ?_
                refine jr.iconst rfl ?_
                refine jr.iload rfl rfl ?_
                refine jr.if_ne rfl rfl (by omega) (fun h147 => ?_) (fun h147 => ?_)
                · refine jr.aload_n rfl rfl ?_
                  have k23 := kf_1_4 k10.2
                  refine jr.getf (i := 4) (v := .ref ((xe ((V.toNat)) r3) + 2)) rfl rfl (Nat.lt_trans (kx_1 k10.2).1 (by decide)) (kx_1 k10.2).2 (by decide) rfl rfl rfl (jval_ref rfl k23.1) ?_
                  refine jr.iconst rfl ?_
                  obtain ⟨v24, e24⟩ : ∃ z_, M1 (((xe ((V.toNat)) r3) + 2)) 0 = z_ := ⟨_, rfl⟩
                  have b24 : (-2147483648) ≤ v24 ∧ v24 ≤ 2147483647 := by rw [← e24]; exact (CI.r hC_M1 k23.2 (by decide) 0)
                  have e25 : M22 (((xe ((V.toNat)) r3) + 2)) 0 = v24 := (hf_M22.g k23.2 rfl).trans e24
                  refine jr.iald (i := 0) (x := v24) rfl (Nat.lt_trans (kx_7 k23.2).1 (by decide)) (kx_7 k23.2).2 (by decide) (by omega) (by omega) e25 ?_
                  refine jr.i2l rfl (by omega) ?_
                  refine jr_s rfl rfl (Or.inr rfl) ⟨Nat.le_of_ble_eq_true rfl, Nat.le_of_ble_eq_true rfl⟩ rfl rfl (jc.deep (c_PacketWall_putNumber_pf hC_M22 (FR.rfl _ M22) k16.2 (by omega) (by omega) (by omega) rfl (fun M26 hC_M26 hf_M26 w26_0 => ?_)) (by decide))
                  have ht_M26 : FR W_c_Flows_rewrite_x T M26 := FR.t ht_M22 hf_M26 (kw_sub rfl)
                  refine jr.aload_n rfl rfl ?_
                  refine jr.aload_n rfl rfl ?_
                  have e27 : M22 15 4 = v12 := (hf_M22.g (show kd 15 = 9 from rfl) rfl).trans e12
                  have e28 : M26 15 4 = v12 := (hf_M26.g (show kd 15 = 9 from rfl) rfl).trans e27
                  refine jr.getf (i := 4) (x := v12) (v := .int (Int32.ofInt (v12))) rfl rfl (by decide) rfl (by decide) rfl rfl e28 rfl ?_
                  have e30 : M22 3 3 = C := (hf_M22.g (show kd 3 = 18 from rfl) rfl).trans e18
                  have e31 : M26 3 3 = C := (hf_M26.g (show kd 3 = 18 from rfl) rfl).trans e30
                  have e32 : M22 3 7 = S := (hf_M22.g (show kd 3 = 18 from rfl) rfl).trans e14
                  have e33 : M26 3 7 = S := (hf_M26.g (show kd 3 = 18 from rfl) rfl).trans e32
                  have k29_S : kd (S).toNat = 33 := (congrArg (fun z : Int => kd z.toNat) e33).symm.trans (CI.x hC_M26 (show kd 3 = 18 from rfl) 7 rfl (by decide))
                  refine jr_v rfl rfl (Or.inl rfl) rfl rfl (by decide) rfl ⟨rfl, Nat.le_of_ble_eq_true rfl, Nat.le_of_ble_eq_true rfl⟩ rfl (jc.deep (c_Headers_mend_x hC_M26 (FR.rfl _ M26) (show kd 3 = 18 from rfl) (by omega) e31 e33 rfl (HS2.p (HS2.p (HS.two (HS.fr p1 (show kd 3 = 18 from rfl) hC_M hf_M1 rfl)) (show kd 3 = 18 from rfl) e14 k_S w22_0) (show kd 3 = 18 from rfl) e32 k_S w26_0) (fun r29 M29 hC_M29 hf_M29 z29 w29_0 => ?_)) (by decide))
                  have ht_M29 : FR W_c_Flows_rewrite_x T M29 := FR.t ht_M26 hf_M29 (kw_sub rfl)
                  refine jr.pop rfl rfl ?_
                  refine jr.aload_n rfl rfl ?_
                  refine jr.aload_n rfl rfl ?_
                  have e34 : M22 15 3 = v13 := (hf_M22.g (show kd 15 = 9 from rfl) rfl).trans e13
                  have e35 : M26 15 3 = v13 := (hf_M26.g (show kd 15 = 9 from rfl) rfl).trans e34
                  have e36 : M29 15 3 = v13 := (hf_M29.g (show kd 15 = 9 from rfl) rfl).trans e35
                  refine jr.getf (i := 3) (x := v13) (v := .int (Int32.ofInt (v13))) rfl rfl (by decide) rfl (by decide) rfl rfl e36 rfl ?_
                  have e38 : M29 3 3 = C := (hf_M29.g (show kd 3 = 18 from rfl) rfl).trans e31
                  have e39 : M29 3 7 = S := (hf_M29.g (show kd 3 = 18 from rfl) rfl).trans e33
                  have k37_S : kd (S).toNat = 33 := (congrArg (fun z : Int => kd z.toNat) e39).symm.trans (CI.x hC_M29 (show kd 3 = 18 from rfl) 7 rfl (by decide))
                  refine jr_v rfl rfl (Or.inl rfl) rfl rfl (by decide) rfl ⟨rfl, Nat.le_of_ble_eq_true rfl, Nat.le_of_ble_eq_true rfl⟩ rfl (jc.deep (c_Headers_mend_x hC_M29 (FR.rfl _ M29) (show kd 3 = 18 from rfl) (by omega) e38 e39 rfl (HS2.m (HS2.p (HS2.p (HS.two (HS.fr p1 (show kd 3 = 18 from rfl) hC_M hf_M1 rfl)) (show kd 3 = 18 from rfl) e14 k_S w22_0) (show kd 3 = 18 from rfl) e32 k_S w26_0) (show kd 3 = 18 from rfl) e33 k_S w29_0) (fun r37 M37 hC_M37 hf_M37 z37 w37_0 => ?_)) (by decide))
                  have ht_M37 : FR W_c_Flows_rewrite_x T M37 := FR.t ht_M29 hf_M37 (kw_sub rfl)
                  refine jr.pop rfl rfl ?_
                  refine jr.iload rfl rfl ?_
                  exact jr.ireturn rfl rfl rfl (q _ _ hC_M37 ht_M37 (by omega) (by rw [p0]; exact Or.inr ⟨M1, (show FND M M1 f N C F 1 from by have h9 := w1_0; rw [show r1 = 1 from by omega] at h9; exact h9), Or.inr (Or.inr ⟨by rw [e2]; omega, ⟨by rw [← w3_0]; omega, by rw [← w3_0, e8]; omega⟩, by rw [← w3_0, ← w11_0], (by rw [← w3_0, e13, e12]; simp only [if_neg (show r11 ≠ 0 by omega)]; rw [e21, e24]; have h9 := w37_0.2.1; unfold tuF; rw [show hY f N v13 = r17 from by rw [w17_0]; unfold pA; rw [if_pos (by omega)], show hY f N v12 = r19 from by rw [w19_0]; unfold pA; rw [if_pos (by omega)]]; simp only [if_neg (show r11 ≠ 0 by omega)]; exact h9), fun b k hb => (w37_0.2.2 b k hb).trans ((w29_0.2.2 b k hb).trans ((w26_0.2 b k hb).trans (w22_0.2 b k hb)))⟩)⟩))
                · exact absurd (by omega) h147
              · exact absurd (by omega) h121
            · exact absurd (by omega) h103
          · refine jr.bipush rfl (by decide) ?_
            refine jr.goto rfl rfl ?_
            refine jr.iadd rfl ?_
            refine jr.istore (ls' := [_, _, _, _, _, _, _]) rfl (by decide) rfl ?_
            refine jr.aload_n rfl rfl ?_
            refine jr.aload_n rfl rfl ?_
            refine jr.getf (i := 4) (x := v12) (v := .int (Int32.ofInt (v12))) rfl rfl (by decide) rfl (by decide) rfl rfl e12 rfl ?_
            refine jr_v rfl rfl (Or.inl rfl) rfl rfl (by decide) rfl ⟨rfl, Nat.le_of_ble_eq_true rfl, Nat.le_of_ble_eq_true rfl⟩ rfl (jc.deep (c_Headers_placeAt_x hC_M1 (show kd 3 = 18 from rfl) (by omega) e18 (HS.fr p1 (show kd 3 = 18 from rfl) hC_M hf_M1 rfl) (fun r40 z40 w40_0 => ?_)) (by decide))
            refine jr.iload rfl rfl ?_
            refine jr.if_ne rfl rfl (by omega) (fun h103 => ?_) (fun h103 => ?_)
            · exact absurd h103 (by omega)
            · refine jr.iconst rfl ?_
              refine jr.goto rfl rfl ?_
              refine jr.iadd rfl ?_
              refine jr.istore (ls' := [_, _, _, _, _, _, _, _]) rfl (by decide) rfl ?_
              refine jr.aload rfl rfl ?_
              refine jr.iload rfl rfl ?_
              refine jr.iconst rfl ?_
              refine jr.iload rfl rfl ?_
              refine jr.if_ne rfl rfl (by omega) (fun h121 => ?_) (fun h121 => ?_)
              · exact absurd h121 (by omega)
              · refine jr.aload_n rfl rfl ?_
                obtain ⟨v41, e41⟩ : ∃ z_, M ((xe ((V.toNat)) r3)) 14 = z_ := ⟨_, rfl⟩
                have b41 : (-9223372036854775808) ≤ v41 ∧ v41 ≤ 9223372036854775807 := by rw [← e41]; exact (CI.r hC_M k10.2 (by decide) 14)
                have e42 : M1 ((xe ((V.toNat)) r3)) 14 = v41 := (hf_M1.g k10.2 rfl).trans e41
                refine jr.getf (i := 14) (x := v41) (v := .long (Int64.ofInt (v41))) rfl rfl (Nat.lt_trans (kx_1 k10.2).1 (by decide)) (kx_1 k10.2).2 (by decide) rfl rfl e42 rfl ?_
                refine jr.goto rfl rfl ?_
                refine jr_s rfl rfl (Or.inr rfl) ⟨Nat.le_of_ble_eq_true rfl, Nat.le_of_ble_eq_true rfl⟩ rfl rfl (jc.deep (c_PacketWall_putNumber_pf hC_M1 (FR.rfl _ M1) k16.2 (by omega) (by omega) (by omega) rfl (fun M43 hC_M43 hf_M43 w43_0 => ?_)) (by decide))
                have ht_M43 : FR W_c_Flows_rewrite_x T M43 := FR.t ht_M1 hf_M43 (kw_sub rfl)
                refine jr.aload rfl rfl ?_
                refine jr.iload rfl rfl ?_
                refine jr.iconst rfl ?_
                refine jr.iload rfl rfl ?_
                refine jr.if_ne rfl rfl (by omega) (fun h147 => ?_) (fun h147 => ?_)
                · exact absurd h147 (by omega)
                · refine jr.aload_n rfl rfl ?_
                  obtain ⟨v44, e44⟩ : ∃ z_, M ((xe ((V.toNat)) r3)) 15 = z_ := ⟨_, rfl⟩
                  have b44 : (-2147483648) ≤ v44 ∧ v44 ≤ 2147483647 := by rw [← e44]; exact (CI.r hC_M k10.2 (by decide) 15)
                  have e45 : M1 ((xe ((V.toNat)) r3)) 15 = v44 := (hf_M1.g k10.2 rfl).trans e44
                  have e46 : M43 ((xe ((V.toNat)) r3)) 15 = v44 := (hf_M43.g k10.2 rfl).trans e45
                  refine jr.getf (i := 15) (x := v44) (v := .int (Int32.ofInt (v44))) rfl rfl (Nat.lt_trans (kx_1 k10.2).1 (by decide)) (kx_1 k10.2).2 (by decide) rfl rfl e46 rfl ?_
                  refine jr.i2l rfl (by omega) ?_
                  refine jr.goto rfl rfl ?_
                  refine jr_s rfl rfl (Or.inr rfl) ⟨Nat.le_of_ble_eq_true rfl, Nat.le_of_ble_eq_true rfl⟩ rfl rfl (jc.deep (c_PacketWall_putNumber_pf hC_M43 (FR.rfl _ M43) k16.2 (by omega) (by omega) (by omega) rfl (fun M47 hC_M47 hf_M47 w47_0 => ?_)) (by decide))
                  have ht_M47 : FR W_c_Flows_rewrite_x T M47 := FR.t ht_M43 hf_M47 (kw_sub rfl)
                  refine jr.aload_n rfl rfl ?_
                  refine jr.aload_n rfl rfl ?_
                  have e48 : M43 15 4 = v12 := (hf_M43.g (show kd 15 = 9 from rfl) rfl).trans e12
                  have e49 : M47 15 4 = v12 := (hf_M47.g (show kd 15 = 9 from rfl) rfl).trans e48
                  refine jr.getf (i := 4) (x := v12) (v := .int (Int32.ofInt (v12))) rfl rfl (by decide) rfl (by decide) rfl rfl e49 rfl ?_
                  have e51 : M43 3 3 = C := (hf_M43.g (show kd 3 = 18 from rfl) rfl).trans e18
                  have e52 : M47 3 3 = C := (hf_M47.g (show kd 3 = 18 from rfl) rfl).trans e51
                  have e53 : M43 3 7 = S := (hf_M43.g (show kd 3 = 18 from rfl) rfl).trans e14
                  have e54 : M47 3 7 = S := (hf_M47.g (show kd 3 = 18 from rfl) rfl).trans e53
                  have k50_S : kd (S).toNat = 33 := (congrArg (fun z : Int => kd z.toNat) e54).symm.trans (CI.x hC_M47 (show kd 3 = 18 from rfl) 7 rfl (by decide))
                  refine jr_v rfl rfl (Or.inl rfl) rfl rfl (by decide) rfl ⟨rfl, Nat.le_of_ble_eq_true rfl, Nat.le_of_ble_eq_true rfl⟩ rfl (jc.deep (c_Headers_mend_x hC_M47 (FR.rfl _ M47) (show kd 3 = 18 from rfl) (by omega) e52 e54 rfl (HS2.p (HS2.p (HS.two (HS.fr p1 (show kd 3 = 18 from rfl) hC_M hf_M1 rfl)) (show kd 3 = 18 from rfl) e14 k_S w43_0) (show kd 3 = 18 from rfl) e53 k_S w47_0) (fun r50 M50 hC_M50 hf_M50 z50 w50_0 => ?_)) (by decide))
                  have ht_M50 : FR W_c_Flows_rewrite_x T M50 := FR.t ht_M47 hf_M50 (kw_sub rfl)
                  refine jr.pop rfl rfl ?_
                  refine jr.aload_n rfl rfl ?_
                  refine jr.aload_n rfl rfl ?_
                  have e55 : M43 15 3 = v13 := (hf_M43.g (show kd 15 = 9 from rfl) rfl).trans e13
                  have e56 : M47 15 3 = v13 := (hf_M47.g (show kd 15 = 9 from rfl) rfl).trans e55
                  have e57 : M50 15 3 = v13 := (hf_M50.g (show kd 15 = 9 from rfl) rfl).trans e56
                  refine jr.getf (i := 3) (x := v13) (v := .int (Int32.ofInt (v13))) rfl rfl (by decide) rfl (by decide) rfl rfl e57 rfl ?_
                  have e59 : M50 3 3 = C := (hf_M50.g (show kd 3 = 18 from rfl) rfl).trans e52
                  have e60 : M50 3 7 = S := (hf_M50.g (show kd 3 = 18 from rfl) rfl).trans e54
                  have k58_S : kd (S).toNat = 33 := (congrArg (fun z : Int => kd z.toNat) e60).symm.trans (CI.x hC_M50 (show kd 3 = 18 from rfl) 7 rfl (by decide))
                  refine jr_v rfl rfl (Or.inl rfl) rfl rfl (by decide) rfl ⟨rfl, Nat.le_of_ble_eq_true rfl, Nat.le_of_ble_eq_true rfl⟩ rfl (jc.deep (c_Headers_mend_x hC_M50 (FR.rfl _ M50) (show kd 3 = 18 from rfl) (by omega) e59 e60 rfl (HS2.m (HS2.p (HS2.p (HS.two (HS.fr p1 (show kd 3 = 18 from rfl) hC_M hf_M1 rfl)) (show kd 3 = 18 from rfl) e14 k_S w43_0) (show kd 3 = 18 from rfl) e53 k_S w47_0) (show kd 3 = 18 from rfl) e54 k_S w50_0) (fun r58 M58 hC_M58 hf_M58 z58 w58_0 => ?_)) (by decide))
                  have ht_M58 : FR W_c_Flows_rewrite_x T M58 := FR.t ht_M50 hf_M58 (kw_sub rfl)
                  refine jr.pop rfl rfl ?_
                  refine jr.iload rfl rfl ?_
                  exact jr.ireturn rfl rfl rfl (q _ _ hC_M58 ht_M58 (by omega) (by rw [p0]; exact Or.inr ⟨M1, (show FND M M1 f N C F 1 from by have h9 := w1_0; rw [show r1 = 1 from by omega] at h9; exact h9), Or.inr (Or.inr ⟨by rw [e2]; omega, ⟨by rw [← w3_0]; omega, by rw [← w3_0, e8]; omega⟩, by rw [← w3_0, ← w11_0], (by rw [← w3_0, e13, e12]; simp only [if_pos (show r11 = 0 by omega)]; rw [e42, e45]; have h9 := w58_0.2.1; unfold tuF; rw [show hY f N v13 = r17 from by rw [w17_0]; unfold pA; rw [if_pos (by omega)], show hY f N v12 = r40 from by rw [w40_0]; unfold pA; rw [if_pos (by omega)]]; simp only [if_pos (show r11 = 0 by omega)]; exact h9), fun b k hb => (w58_0.2.2 b k hb).trans ((w50_0.2.2 b k hb).trans ((w47_0.2 b k hb).trans (w43_0.2 b k hb)))⟩)⟩))
        · refine jr.bipush rfl (by decide) ?_
          exact jr.ireturn rfl rfl rfl (q _ _ hC_M1 ht_M1 (by omega) (by rw [p0]; exact Or.inr ⟨M1, (show FND M M1 f N C F 1 from by have h9 := w1_0; rw [show r1 = 1 from by omega] at h9; exact h9), Or.inr (Or.inl ⟨by rw [e2]; omega, by rw [← w3_0]; exact Or.inr (by rw [e8]; omega), rfl, rfl⟩)⟩))
    · have sx12 : (1 : Int) ≤ v2 := by omega
      clear h12
      refine jr.bipush rfl (by decide) ?_
      exact jr.ireturn rfl rfl rfl (q _ _ hC_M1 ht_M1 (by omega) (by rw [p0]; exact Or.inr ⟨M1, (show FND M M1 f N C F 1 from by have h9 := w1_0; rw [show r1 = 1 from by omega] at h9; exact h9), Or.inl ⟨by rw [e2]; omega, rfl, rfl⟩⟩))
end
