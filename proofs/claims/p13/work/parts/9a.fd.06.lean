section
theorem c_Flows_findEnds_x {A : Nat → Option (Nat × (Nat → Int32))} {Q : Option Value → jm → Prop} {f : Int → Int} {N : Int} {T : jm} {M : jm} (hC_M : CI M) (ht_M : FR W_c_Flows_findEnds_x T M) {C : Int} (g_C : M 3 3 = C) {F : Int} (g_F : M 3 4 = F) (p0 : T = M) (p1 : HS M 3 f N) (q : ∀ (r : Int) (M' : jm), CI M' → FR W_c_Flows_findEnds_x T M' → 0 ≤ r ∧ r ≤ 1 → (FND T M' f N C F r) → Q (some (.int (Int32.ofInt r))) M') : jc A 5 89 [.ref (15), .ref (3)] M Q := by
  refine jc_of (m := xm_89) rfl (Nat.le_of_ble_eq_true rfl) rfl ?_
  have b_C : 0 ≤ C ∧ C ≤ 12 := by rw [← g_C]; exact (CI.r hC_M (show kd 3 = 18 from rfl) (by decide) 3)
  have b_F : (-2147483648) ≤ F ∧ F ≤ 2147483647 := by rw [← g_F]; exact (CI.r hC_M (show kd 3 = 18 from rfl) (by decide) 4)
  refine jr.aload_n rfl rfl ?_
  refine jr.iconst rfl ?_
  refine jr.putf (i := 5) (x := 0) rfl rfl (by decide) rfl (by decide) rfl rfl rfl rfl rfl ?_
  refine jr.aload_n rfl rfl ?_
  refine jr.aload_n rfl rfl ?_
  refine jr.bipush rfl (by decide) ?_
  refine jr_v rfl rfl (Or.inl rfl) rfl rfl (by decide) rfl ⟨rfl, Nat.le_of_ble_eq_true rfl, Nat.le_of_ble_eq_true rfl⟩ rfl (jc.deep (c_Headers_firstOf_x (CI.u hC_M (i := 5) (show kd 15 = 9 from rfl) (show (0 : Int) ≤ _ ∧ _ ≤ (1 : Int) from by omega) rfl) (show kd 3 = 18 from rfl) (by omega) ((ju_c _ _ (by decide)).trans g_C) (HS.fr p1 (show kd 3 = 18 from rfl) hC_M (FR.o (FR.rfl [(9, 5)] M) (show kd 15 = 9 from rfl) rfl) rfl) (fun r1 z1 w1_0 => ?_)) (by decide))
  have hnr := ntf_r (f := f) (N := N) (C := C) (by omega)
  rw [← w1_0] at hnr
  refine jr.putf (i := 3) (x := r1) rfl rfl (by decide) rfl (by decide) rfl rfl rfl rfl rfl ?_
  refine jr.aload_n rfl rfl ?_
  refine jr.getf (i := 4) (x := F) (v := .int (Int32.ofInt (F))) rfl rfl (by decide) rfl (by decide) rfl rfl ((ju_c _ _ (by decide)).trans ((ju_c _ _ (by decide)).trans g_F)) rfl ?_
  refine jr.if_ne rfl rfl (by omega) (fun h19 => ?_) (fun h19 => ?_)
  · refine jr.iconst rfl ?_
    exact jr.ireturn rfl rfl rfl (q _ _ (CI.u (CI.u hC_M (i := 5) (show kd 15 = 9 from rfl) (show (0 : Int) ≤ _ ∧ _ ≤ (1 : Int) from by omega) rfl) (i := 3) (show kd 15 = 9 from rfl) (show (-2147483648 : Int) ≤ _ ∧ _ ≤ (2147483647 : Int) from by omega) rfl) (FR.o (FR.o ht_M (show kd 15 = 9 from rfl) rfl) (show kd 15 = 9 from rfl) rfl) (by omega) (by have hn : ntf f N C = r1 := w1_0.symm; exact Or.inl ⟨fun h => by unfold heF at h; rw [hn] at h; omega, rfl, ⟨fun b k b0 b1 b2 b3 => by rw [ju_c _ _ b0, ju_c _ _ b0, p0], fun k k3 k4 k5 => by rw [ju_i _ _ k3, ju_i _ _ k5, p0]⟩⟩))
  · refine jr.aload_n rfl rfl ?_
    refine jr.getf (i := 3) (x := r1) (v := .int (Int32.ofInt (r1))) rfl rfl (by decide) rfl (by decide) rfl rfl (ju_same _ _ _ _) rfl ?_
    refine jr.iconst rfl ?_
    refine jr.icmp_eq rfl rfl (by omega) (by omega) (fun h27 => ?_) (fun h27 => ?_)
    · refine jr.iconst rfl ?_
      exact jr.ireturn rfl rfl rfl (q _ _ (CI.u (CI.u hC_M (i := 5) (show kd 15 = 9 from rfl) (show (0 : Int) ≤ _ ∧ _ ≤ (1 : Int) from by omega) rfl) (i := 3) (show kd 15 = 9 from rfl) (show (-2147483648 : Int) ≤ _ ∧ _ ≤ (2147483647 : Int) from by omega) rfl) (FR.o (FR.o ht_M (show kd 15 = 9 from rfl) rfl) (show kd 15 = 9 from rfl) rfl) (by omega) (by have hn : ntf f N C = r1 := w1_0.symm; exact Or.inl ⟨fun h => by unfold heF at h; rw [hn] at h; omega, rfl, ⟨fun b k b0 b1 b2 b3 => by rw [ju_c _ _ b0, ju_c _ _ b0, p0], fun k k3 k4 k5 => by rw [ju_i _ _ k3, ju_i _ _ k5, p0]⟩⟩))
    · have sx27 : (0 : Int) ≤ r1 := by omega
      clear h27
      refine jr.aload_n rfl rfl ?_
      refine jr_v rfl rfl (Or.inl rfl) rfl rfl (by decide) rfl ⟨rfl, Nat.le_of_ble_eq_true rfl, Nat.le_of_ble_eq_true rfl⟩ rfl (jc.deep (c_Headers_pieceHeader_x (CI.u (CI.u hC_M (i := 5) (show kd 15 = 9 from rfl) (show (0 : Int) ≤ _ ∧ _ ≤ (1 : Int) from by omega) rfl) (i := 3) (show kd 15 = 9 from rfl) (show (-2147483648 : Int) ≤ _ ∧ _ ≤ (2147483647 : Int) from by omega) rfl) (show kd 3 = 18 from rfl) ((ju_c _ _ (by decide)).trans ((ju_c _ _ (by decide)).trans g_C)) ((ju_c _ _ (by decide)).trans ((ju_c _ _ (by decide)).trans g_F)) (HS.fr p1 (show kd 3 = 18 from rfl) hC_M (FR.o (FR.o (FR.rfl [(9, 3), (9, 5)] M) (show kd 15 = 9 from rfl) rfl) (show kd 15 = 9 from rfl) rfl) rfl) (fun r2 z2 w2_0 => ?_)) (by decide))
      refine jr.iconst rfl ?_
      refine jr.icmp_eq rfl rfl (by omega) (by omega) (fun h35 => ?_) (fun h35 => ?_)
      · refine jr.aload_n rfl rfl ?_
        refine jr.aload_n rfl rfl ?_
        refine jr.aload_n rfl rfl ?_
        refine jr.getf (i := 3) (x := r1) (v := .int (Int32.ofInt (r1))) rfl rfl (by decide) rfl (by decide) rfl rfl (ju_same _ _ _ _) rfl ?_
        refine jr_v rfl rfl (Or.inl rfl) rfl rfl (by decide) rfl ⟨rfl, Nat.le_of_ble_eq_true rfl, Nat.le_of_ble_eq_true rfl⟩ rfl (jc.deep (c_Headers_innerOf_x (CI.u (CI.u hC_M (i := 5) (show kd 15 = 9 from rfl) (show (0 : Int) ≤ _ ∧ _ ≤ (1 : Int) from by omega) rfl) (i := 3) (show kd 15 = 9 from rfl) (show (-2147483648 : Int) ≤ _ ∧ _ ≤ (2147483647 : Int) from by omega) rfl) (show kd 3 = 18 from rfl) (by omega) ((ju_c _ _ (by decide)).trans ((ju_c _ _ (by decide)).trans g_C)) (HS.fr p1 (show kd 3 = 18 from rfl) hC_M (FR.o (FR.o (FR.rfl [(9, 3), (9, 5)] M) (show kd 15 = 9 from rfl) rfl) (show kd 15 = 9 from rfl) rfl) rfl) (fun r3 z3 w3_0 => ?_)) (by decide))
        have hir := inf_r (f := f) (N := N) (C := C) (x := r1) (by omega)
        rw [← w3_0] at hir
        refine jr.putf (i := 4) (x := r3) rfl rfl (by decide) rfl (by decide) rfl rfl rfl rfl rfl ?_
        refine jr.aload_n rfl rfl ?_
        refine jr.aload_n rfl rfl ?_
        refine jr.getf (i := 4) (x := r3) (v := .int (Int32.ofInt (r3))) rfl rfl (by decide) rfl (by decide) rfl rfl (ju_same _ _ _ _) rfl ?_
        refine jr_v rfl rfl (Or.inl rfl) rfl rfl (by decide) rfl ⟨rfl, Nat.le_of_ble_eq_true rfl, Nat.le_of_ble_eq_true rfl⟩ rfl (jc.deep (c_Headers_kindAt_x (CI.u (CI.u (CI.u hC_M (i := 5) (show kd 15 = 9 from rfl) (show (0 : Int) ≤ _ ∧ _ ≤ (1 : Int) from by omega) rfl) (i := 3) (show kd 15 = 9 from rfl) (show (-2147483648 : Int) ≤ _ ∧ _ ≤ (2147483647 : Int) from by omega) rfl) (i := 4) (show kd 15 = 9 from rfl) (show (-2147483648 : Int) ≤ _ ∧ _ ≤ (2147483647 : Int) from by omega) rfl) (show kd 3 = 18 from rfl) (by omega) ((ju_c _ _ (by decide)).trans ((ju_c _ _ (by decide)).trans ((ju_c _ _ (by decide)).trans g_C))) (HS.fr p1 (show kd 3 = 18 from rfl) hC_M (FR.o (FR.o (FR.o (FR.rfl [(9, 3), (9, 4), (9, 5)] M) (show kd 15 = 9 from rfl) rfl) (show kd 15 = 9 from rfl) rfl) (show kd 15 = 9 from rfl) rfl) rfl) (fun r4 z4 w4_0 => ?_)) (by decide))
        have hkr : r4 = -1 ∨ (0 ≤ r3 ∧ r3 < C) := Or.elim (Decidable.em (r4 = -1)) (fun h => Or.inl h) (fun h => Or.inr (kA_in (by rw [← w4_0]; exact h)))
        refine jr_s rfl rfl (Or.inr rfl) ⟨Nat.le_of_ble_eq_true rfl, Nat.le_of_ble_eq_true rfl⟩ rfl rfl (jc.deep (c_PacketWall_isCarriedKind_x (CI.u (CI.u (CI.u hC_M (i := 5) (show kd 15 = 9 from rfl) (show (0 : Int) ≤ _ ∧ _ ≤ (1 : Int) from by omega) rfl) (i := 3) (show kd 15 = 9 from rfl) (show (-2147483648 : Int) ≤ _ ∧ _ ≤ (2147483647 : Int) from by omega) rfl) (i := 4) (show kd 15 = 9 from rfl) (show (-2147483648 : Int) ≤ _ ∧ _ ≤ (2147483647 : Int) from by omega) rfl) (by omega) (fun r5 z5 w5_0 w5_1 => ?_)) (by decide))
        refine jr.if_ne rfl rfl (by omega) (fun h63 => ?_) (fun h63 => ?_)
        · have sx63 : (1 : Int) ≤ r5 := by omega
          clear h63
          refine jr.aload_n rfl rfl ?_
          refine jr.aload_n rfl rfl ?_
          refine jr.aload_n rfl rfl ?_
          refine jr_v rfl rfl (Or.inl rfl) rfl rfl (by decide) rfl ⟨rfl, Nat.le_of_ble_eq_true rfl, Nat.le_of_ble_eq_true rfl⟩ rfl (jc.deep (c_Flows_isQuoting_x (CI.u (CI.u (CI.u hC_M (i := 5) (show kd 15 = 9 from rfl) (show (0 : Int) ≤ _ ∧ _ ≤ (1 : Int) from by omega) rfl) (i := 3) (show kd 15 = 9 from rfl) (show (-2147483648 : Int) ≤ _ ∧ _ ≤ (2147483647 : Int) from by omega) rfl) (i := 4) (show kd 15 = 9 from rfl) (show (-2147483648 : Int) ≤ _ ∧ _ ≤ (2147483647 : Int) from by omega) rfl)  ((ju_c _ _ (by decide)).trans ((ju_c _ _ (by decide)).trans ((ju_c _ _ (by decide)).trans g_C))) (ju_same _ _ _ _) (HS.fr p1 (show kd 3 = 18 from rfl) hC_M (FR.o (FR.o (FR.o (FR.rfl [(9, 3), (9, 4), (9, 5)] M) (show kd 15 = 9 from rfl) rfl) (show kd 15 = 9 from rfl) rfl) (show kd 15 = 9 from rfl) rfl) rfl) (by omega) (fun r6 z6 w6_0 => ?_)) (by decide))
          refine jr.putf (i := 5) (x := r6) rfl rfl (by decide) rfl (by decide) rfl rfl rfl (j_zr (by omega)) (j_fz (by omega)) ?_
          refine jr.aload_n rfl rfl ?_
          refine jr.getf (i := 5) (x := r6) (v := .int (Int32.ofInt (r6))) rfl rfl (by decide) rfl (by decide) rfl rfl (ju_same _ _ _ _) rfl ?_
          refine jr.if_eq rfl rfl (by omega) (fun h81 => ?_) (fun h81 => ?_)
          · refine jr.aload_n rfl rfl ?_
            refine jr.getf (i := 2) (v := .ref 18) rfl rfl (by decide) rfl (by decide) rfl rfl rfl rfl ?_
            refine jr.aload_n rfl rfl ?_
            refine jr.aload_n rfl rfl ?_
            refine jr.getf (i := 3) (x := r1) (v := .int (Int32.ofInt (r1))) rfl rfl (by decide) rfl (by decide) rfl rfl ((ju_i _ _ (by decide)).trans ((ju_i _ _ (by decide)).trans (ju_same _ _ _ _))) rfl ?_
            refine jr.aload_n rfl rfl ?_
            refine jr.getf (i := 4) (x := r3) (v := .int (Int32.ofInt (r3))) rfl rfl (by decide) rfl (by decide) rfl rfl ((ju_i _ _ (by decide)).trans (ju_same _ _ _ _)) rfl ?_
            refine jr_v rfl rfl (Or.inl rfl) rfl rfl (by decide) rfl ⟨rfl, Nat.le_of_ble_eq_true rfl, Nat.le_of_ble_eq_true rfl⟩ rfl (jc.deep (c_Flow_describe_x (CI.u (CI.u (CI.u (CI.u hC_M (i := 5) (show kd 15 = 9 from rfl) (show (0 : Int) ≤ _ ∧ _ ≤ (1 : Int) from by omega) rfl) (i := 3) (show kd 15 = 9 from rfl) (show (-2147483648 : Int) ≤ _ ∧ _ ≤ (2147483647 : Int) from by omega) rfl) (i := 4) (show kd 15 = 9 from rfl) (show (-2147483648 : Int) ≤ _ ∧ _ ≤ (2147483647 : Int) from by omega) rfl) (i := 5) (show kd 15 = 9 from rfl) (show (0 : Int) ≤ _ ∧ _ ≤ (1 : Int) from by omega) rfl) (FR.rfl _ ((ju (ju (ju (ju M 15 5 0) 15 3 r1) 15 4 r3) 15 5 r6))) (by omega) (by omega) ((ju_c _ _ (by decide)).trans ((ju_c _ _ (by decide)).trans ((ju_c _ _ (by decide)).trans ((ju_c _ _ (by decide)).trans g_C)))) rfl (HS.fr p1 (show kd 3 = 18 from rfl) hC_M (FR.o (FR.o (FR.o (FR.o (FR.rfl [(9, 3), (9, 4), (9, 5)] M) (show kd 15 = 9 from rfl) rfl) (show kd 15 = 9 from rfl) rfl) (show kd 15 = 9 from rfl) rfl) (show kd 15 = 9 from rfl) rfl) rfl) (by rw [← w4_0]; omega) (fun M7 hC_M7 hf_M7 w7_0 => ?_)) (by decide))
            have ht_M7 : FR W_c_Flows_findEnds_x T M7 := FR.t (FR.o (FR.o (FR.o (FR.o ht_M (show kd 15 = 9 from rfl) rfl) (show kd 15 = 9 from rfl) rfl) (show kd 15 = 9 from rfl) rfl) (show kd 15 = 9 from rfl) rfl) hf_M7 (kw_sub rfl)
            refine jr.iconst rfl ?_
            have e8 : M7 15 5 = r6 := (hf_M7.g (show kd 15 = 9 from rfl) rfl).trans (ju_same _ _ _ _)
            have e9 : M7 15 3 = r1 := (hf_M7.g (show kd 15 = 9 from rfl) rfl).trans ((ju_i _ _ (by decide)).trans ((ju_i _ _ (by decide)).trans (ju_same _ _ _ _)))
            have e10 : M7 15 4 = r3 := (hf_M7.g (show kd 15 = 9 from rfl) rfl).trans ((ju_i _ _ (by decide)).trans (ju_same _ _ _ _))
            exact jr.ireturn rfl rfl rfl (q _ _ hC_M7 ht_M7 (by omega) (by have hn : ntf f N C = r1 := w1_0.symm; have hi : inf f N C r1 = r3 := w3_0.symm; have hk : kA f N C r3 = r4 := w4_0.symm; have hp := w2_0; unfold FND; rw [hn, hi]; exact Or.inr ⟨(by unfold heF; rw [hn, hi, hk]; omega), rfl, ⟨fun b k b0 b1 b2 b3 => by rw [w7_0.2.2 b k b1 b2 b3, ju_c _ _ b0, ju_c _ _ b0, ju_c _ _ b0, ju_c _ _ b0, p0], fun k k3 k4 k5 => by rw [w7_0.2.2 15 k (by decide) (by decide) (by decide), ju_i _ _ k5, ju_i _ _ k4, ju_i _ _ k3, ju_i _ _ k5, p0]⟩, ⟨e9, e10⟩, Or.inr ⟨(w6_0.resolve_left (fun h => by omega)).2, (e8.trans (by omega)), ⟨w7_0.1, fun s s0 s1 => w7_0.2.1 s s0 s1⟩⟩⟩))
          · have sx81 : (1 : Int) ≤ r6 := by omega
            clear h81
            refine jr.aload_n rfl rfl ?_
            refine jr.getf (i := 2) (v := .ref 18) rfl rfl (by decide) rfl (by decide) rfl rfl rfl rfl ?_
            refine jr.aload_n rfl rfl ?_
            refine jr.aload_n rfl rfl ?_
            refine jr.getf (i := 4) (x := r3) (v := .int (Int32.ofInt (r3))) rfl rfl (by decide) rfl (by decide) rfl rfl ((ju_i _ _ (by decide)).trans (ju_same _ _ _ _)) rfl ?_
            refine jr.iconst rfl ?_
            refine jr.iadd rfl ?_
            refine jr.aload_n rfl rfl ?_
            refine jr.getf (i := 4) (x := r3) (v := .int (Int32.ofInt (r3))) rfl rfl (by decide) rfl (by decide) rfl rfl ((ju_i _ _ (by decide)).trans (ju_same _ _ _ _)) rfl ?_
            refine jr.iconst rfl ?_
            refine jr.iadd rfl ?_
            obtain ⟨hq1, hq2, hq3, hq4⟩ := (w6_0.resolve_right (fun h => by omega)).2
            have hz1 := kA_in (f := f) (N := N) (C := C) (x := r3 + 1) (by omega)
            have hz2 := kA_in (f := f) (N := N) (C := C) (x := r3 + 2) (by omega)
            refine jr_v rfl rfl (Or.inl rfl) rfl rfl (by decide) rfl ⟨rfl, Nat.le_of_ble_eq_true rfl, Nat.le_of_ble_eq_true rfl⟩ rfl (jc.deep (c_Flow_describe_x (CI.u (CI.u (CI.u (CI.u hC_M (i := 5) (show kd 15 = 9 from rfl) (show (0 : Int) ≤ _ ∧ _ ≤ (1 : Int) from by omega) rfl) (i := 3) (show kd 15 = 9 from rfl) (show (-2147483648 : Int) ≤ _ ∧ _ ≤ (2147483647 : Int) from by omega) rfl) (i := 4) (show kd 15 = 9 from rfl) (show (-2147483648 : Int) ≤ _ ∧ _ ≤ (2147483647 : Int) from by omega) rfl) (i := 5) (show kd 15 = 9 from rfl) (show (0 : Int) ≤ _ ∧ _ ≤ (1 : Int) from by omega) rfl) (FR.rfl _ ((ju (ju (ju (ju M 15 5 0) 15 3 r1) 15 4 r3) 15 5 r6))) (by omega) (by omega) ((ju_c _ _ (by decide)).trans ((ju_c _ _ (by decide)).trans ((ju_c _ _ (by decide)).trans ((ju_c _ _ (by decide)).trans g_C)))) rfl (HS.fr p1 (show kd 3 = 18 from rfl) hC_M (FR.o (FR.o (FR.o (FR.o (FR.rfl [(9, 3), (9, 4), (9, 5)] M) (show kd 15 = 9 from rfl) rfl) (show kd 15 = 9 from rfl) rfl) (show kd 15 = 9 from rfl) rfl) (show kd 15 = 9 from rfl) rfl) rfl) hq4 (fun M11 hC_M11 hf_M11 w11_0 => ?_)) (by decide))
            have ht_M11 : FR W_c_Flows_findEnds_x T M11 := FR.t (FR.o (FR.o (FR.o (FR.o ht_M (show kd 15 = 9 from rfl) rfl) (show kd 15 = 9 from rfl) rfl) (show kd 15 = 9 from rfl) rfl) (show kd 15 = 9 from rfl) rfl) hf_M11 (kw_sub rfl)
            refine jr.goto rfl rfl ?_
            refine jr.iconst rfl ?_
            have e12 : M11 15 5 = r6 := (hf_M11.g (show kd 15 = 9 from rfl) rfl).trans (ju_same _ _ _ _)
            have e13 : M11 15 3 = r1 := (hf_M11.g (show kd 15 = 9 from rfl) rfl).trans ((ju_i _ _ (by decide)).trans ((ju_i _ _ (by decide)).trans (ju_same _ _ _ _)))
            have e14 : M11 15 4 = r3 := (hf_M11.g (show kd 15 = 9 from rfl) rfl).trans ((ju_i _ _ (by decide)).trans (ju_same _ _ _ _))
            exact jr.ireturn rfl rfl rfl (q _ _ hC_M11 ht_M11 (by omega) (by have hn : ntf f N C = r1 := w1_0.symm; have hi : inf f N C r1 = r3 := w3_0.symm; have hk : kA f N C r3 = r4 := w4_0.symm; have hp := w2_0; unfold FND; rw [hn, hi]; exact Or.inr ⟨(by unfold heF; rw [hn, hi, hk]; omega), rfl, ⟨fun b k b0 b1 b2 b3 => by rw [w11_0.2.2 b k b1 b2 b3, ju_c _ _ b0, ju_c _ _ b0, ju_c _ _ b0, ju_c _ _ b0, p0], fun k k3 k4 k5 => by rw [w11_0.2.2 15 k (by decide) (by decide) (by decide), ju_i _ _ k5, ju_i _ _ k4, ju_i _ _ k3, ju_i _ _ k5, p0]⟩, ⟨e13, e14⟩, Or.inl ⟨(w6_0.resolve_right (fun h => by omega)).2, (e12.trans (by omega)), ⟨w11_0.1, fun s s0 s1 => w11_0.2.1 s s0 s1⟩⟩⟩))
        · refine jr.iconst rfl ?_
          exact jr.ireturn rfl rfl rfl (q _ _ (CI.u (CI.u (CI.u hC_M (i := 5) (show kd 15 = 9 from rfl) (show (0 : Int) ≤ _ ∧ _ ≤ (1 : Int) from by omega) rfl) (i := 3) (show kd 15 = 9 from rfl) (show (-2147483648 : Int) ≤ _ ∧ _ ≤ (2147483647 : Int) from by omega) rfl) (i := 4) (show kd 15 = 9 from rfl) (show (-2147483648 : Int) ≤ _ ∧ _ ≤ (2147483647 : Int) from by omega) rfl) (FR.o (FR.o (FR.o ht_M (show kd 15 = 9 from rfl) rfl) (show kd 15 = 9 from rfl) rfl) (show kd 15 = 9 from rfl) rfl) (by omega) (by have hn : ntf f N C = r1 := w1_0.symm; have hi : inf f N C r1 = r3 := w3_0.symm; have hk : kA f N C r3 = r4 := w4_0.symm; have hp := w2_0; exact Or.inl ⟨fun h => by unfold heF at h; rw [hn, hi, hk] at h; omega, rfl, ⟨fun b k b0 b1 b2 b3 => by rw [ju_c _ _ b0, ju_c _ _ b0, ju_c _ _ b0, p0], fun k k3 k4 k5 => by rw [ju_i _ _ k4, ju_i _ _ k3, ju_i _ _ k5, p0]⟩⟩))
      · have sx35 : (0 : Int) ≤ r2 := by omega
        clear h35
        refine jr.iconst rfl ?_
        exact jr.ireturn rfl rfl rfl (q _ _ (CI.u (CI.u hC_M (i := 5) (show kd 15 = 9 from rfl) (show (0 : Int) ≤ _ ∧ _ ≤ (1 : Int) from by omega) rfl) (i := 3) (show kd 15 = 9 from rfl) (show (-2147483648 : Int) ≤ _ ∧ _ ≤ (2147483647 : Int) from by omega) rfl) (FR.o (FR.o ht_M (show kd 15 = 9 from rfl) rfl) (show kd 15 = 9 from rfl) rfl) (by omega) (by have hn : ntf f N C = r1 := w1_0.symm; exact Or.inl ⟨fun h => by unfold heF at h; rw [hn] at h; first | omega | (have h9 := w2_0; omega), rfl, ⟨fun b k b0 b1 b2 b3 => by rw [ju_c _ _ b0, ju_c _ _ b0, p0], fun k k3 k4 k5 => by rw [ju_i _ _ k3, ju_i _ _ k5, p0]⟩⟩))
end
section
end
