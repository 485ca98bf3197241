/-! ===== the class: a packet's ends ===== -/
def qfF (f : Int → Int) (N C i : Int) : Prop := kA f N C i = 7 ∧ (vA f N C i 0 = 3 ∨ vA f N C i 0 = 11) ∧ (kA f N C (i + 1) = 2 ∨ kA f N C (i + 1) = 3) ∧ (7 ≤ kA f N C (i + 2) ∧ kA f N C (i + 2) ≤ 9)
def heF (f : Int → Int) (N C F : Int) : Prop := F = 0 ∧ ntf f N C ≠ -1 ∧ pcf f N C = -1 ∧ (7 ≤ kA f N C (inf f N C (ntf f N C)) ∧ kA f N C (inf f N C (ntf f N C)) ≤ 9)
def E2F (M : jm) (f : Int → Int) (N C y z : Int) : Prop := (M 18 1 = (if kA f N C y = 3 then 1 else 0) ∧ M 18 2 = nxk (kA f N C z)) ∧ ∀ s : Int, 0 ≤ s → s < 2 → M 19 s = adf f N C y s ∧ M 20 s = epf f N C z s
def OT5 (T M : jm) : Prop := (∀ (b : Nat) (k : Int), b ≠ 15 → b ≠ 18 → b ≠ 19 → b ≠ 20 → M b k = T b k) ∧ ∀ k : Int, k ≠ 3 → k ≠ 4 → k ≠ 5 → M 15 k = T 15 k
def FND (T M : jm) (f : Int → Int) (N C F r : Int) : Prop := (¬ heF f N C F ∧ r = 0 ∧ OT5 T M) ∨ (heF f N C F ∧ r = 1 ∧ OT5 T M ∧ (M 15 3 = ntf f N C ∧ M 15 4 = inf f N C (ntf f N C)) ∧ ((qfF f N C (inf f N C (ntf f N C)) ∧ M 15 5 = 1 ∧ E2F M f N C (inf f N C (ntf f N C) + 1) (inf f N C (ntf f N C) + 2)) ∨ (¬ qfF f N C (inf f N C (ntf f N C)) ∧ M 15 5 = 0 ∧ E2F M f N C (ntf f N C) (inf f N C (ntf f N C)))))
theorem c_Flows_isQuoting_x {A : Nat → Option (Nat × (Nat → Int32))} {Q : Option Value → jm → Prop} {f : Int → Int} {N : Int} {M : jm} (hC_M : CI M) {C : Int} (g_C : M 3 3 = C) {I : Int} (g_I : M 15 4 = I) (p0 : HS M 3 f N) (p1 : -1 ≤ I ∧ I ≤ 11) (q : ∀ (r : Int), 0 ≤ r ∧ r ≤ 1 → ((r = 1 ∧ qfF f N C I) ∨ (r = 0 ∧ ¬ qfF f N C I)) → Q (some (.int (Int32.ofInt r))) M) : jc A 3 90 [.ref (15), .ref (3)] M Q := by
  refine jc_of (m := xm_90) rfl (Nat.le_of_ble_eq_true rfl) rfl ?_
  have b_C : 0 ≤ C ∧ C ≤ 12 := by rw [← g_C]; exact (CI.r hC_M (show kd 3 = 18 from rfl) (by decide) 3)
  have b_I : (-2147483648) ≤ I ∧ I ≤ 2147483647 := by rw [← g_I]; exact (CI.r hC_M (show kd 15 = 9 from rfl) (by decide) 4)
  refine jr.aload_n rfl rfl ?_
  refine jr.aload_n rfl rfl ?_
  refine jr.getf (i := 4) (x := I) (v := .int (Int32.ofInt (I))) rfl rfl (by decide) rfl (by decide) rfl rfl g_I rfl ?_
  refine jr_v rfl rfl (Or.inl rfl) rfl rfl (by decide) rfl ⟨rfl, Nat.le_of_ble_eq_true rfl, Nat.le_of_ble_eq_true rfl⟩ rfl (jc.deep (c_Headers_kindAt_x hC_M (show kd 3 = 18 from rfl) (by omega) g_C p0 (fun r1 z1 w1_0 => ?_)) (by decide))
  refine jr.bipush rfl (by decide) ?_
  refine jr.icmp_eq rfl rfl (by omega) (by omega) (fun h10 => ?_) (fun h10 => ?_)
  · refine jr.aload_n rfl rfl ?_
    refine jr.aload_n rfl rfl ?_
    refine jr.getf (i := 4) (x := I) (v := .int (Int32.ofInt (I))) rfl rfl (by decide) rfl (by decide) rfl rfl g_I rfl ?_
    refine jr.iconst rfl ?_
    refine jr_v rfl rfl (Or.inl rfl) rfl rfl (by decide) rfl ⟨rfl, Nat.le_of_ble_eq_true rfl, Nat.le_of_ble_eq_true rfl⟩ rfl (jc.deep (c_Headers_valueOf_x hC_M (show kd 3 = 18 from rfl) (by omega) (by omega) g_C p0 (fun r2 z2 w2_0 => ?_)) (by decide))
    refine jr.lstore_n rfl (by decide) rfl ?_
    refine jr.aload_n rfl rfl ?_
    refine jr.aload_n rfl rfl ?_
    refine jr.getf (i := 4) (x := I) (v := .int (Int32.ofInt (I))) rfl rfl (by decide) rfl (by decide) rfl rfl g_I rfl ?_
    refine jr.iconst rfl ?_
    refine jr.iadd rfl ?_
    refine jr_v rfl rfl (Or.inl rfl) rfl rfl (by decide) rfl ⟨rfl, Nat.le_of_ble_eq_true rfl, Nat.le_of_ble_eq_true rfl⟩ rfl (jc.deep (c_Headers_kindAt_x hC_M (show kd 3 = 18 from rfl) (by omega) g_C p0 (fun r3 z3 w3_0 => ?_)) (by decide))
    skip
    refine jr_s rfl rfl (Or.inr rfl) ⟨Nat.le_of_ble_eq_true rfl, Nat.le_of_ble_eq_true rfl⟩ rfl rfl (jc.deep (c_PacketWall_isNetKind_x hC_M (by omega) (fun r4 z4 w4_0 w4_1 => ?_)) (by decide))
    refine jr.if_eq rfl rfl (by omega) (fun h38 => ?_) (fun h38 => ?_)
    · refine jr.iconst rfl ?_
      refine jr.istore rfl (by decide) rfl ?_
      refine jr.lload_n rfl rfl ?_
      refine jr.ldc2 (x := 3) rfl rfl (by decide) ?_
      refine jr.lcmp_eq rfl rfl rfl (by omega) (by omega) (fun h68 => ?_) (fun h68 => ?_)
      · refine jr.iload rfl rfl ?_
        refine jr.if_eq rfl rfl (by omega) (fun _ => ?_) (fun h => absurd (by decide) h)
        refine jr.iconst rfl ?_
        exact jr.ireturn rfl rfl rfl (q _ (by omega) (by have a0 : kA f N C I = r1 := w1_0.symm; have a1 : vA f N C I 0 = r2 := w2_0.symm; have c1 : kA f N C (I + 1) = r3 := w3_0.symm; exact Or.inr ⟨rfl, fun h => by unfold qfF at h; omega⟩))
      · refine jr.lload_n rfl rfl ?_
        refine jr.ldc2 (x := 11) rfl rfl (by decide) ?_
        refine jr.lcmp_ne rfl rfl rfl (by omega) (by omega) (fun h76 => ?_) (fun h76 => ?_)
        · refine jr.iconst rfl ?_
          exact jr.ireturn rfl rfl rfl (q _ (by omega) (by have a0 : kA f N C I = r1 := w1_0.symm; have a1 : vA f N C I 0 = r2 := w2_0.symm; have c1 : kA f N C (I + 1) = r3 := w3_0.symm; exact Or.inr ⟨rfl, fun h => by unfold qfF at h; omega⟩))
        · refine jr.iload rfl rfl ?_
          refine jr.if_eq rfl rfl (by omega) (fun _ => ?_) (fun h => absurd (by decide) h)
          refine jr.iconst rfl ?_
          exact jr.ireturn rfl rfl rfl (q _ (by omega) (by have a0 : kA f N C I = r1 := w1_0.symm; have a1 : vA f N C I 0 = r2 := w2_0.symm; have c1 : kA f N C (I + 1) = r3 := w3_0.symm; exact Or.inr ⟨rfl, fun h => by unfold qfF at h; omega⟩))
    · refine jr.aload_n rfl rfl ?_
      refine jr.aload_n rfl rfl ?_
      refine jr.getf (i := 4) (x := I) (v := .int (Int32.ofInt (I))) rfl rfl (by decide) rfl (by decide) rfl rfl g_I rfl ?_
      refine jr.iconst rfl ?_
      refine jr.iadd rfl ?_
      refine jr_v rfl rfl (Or.inl rfl) rfl rfl (by decide) rfl ⟨rfl, Nat.le_of_ble_eq_true rfl, Nat.le_of_ble_eq_true rfl⟩ rfl (jc.deep (c_Headers_kindAt_x hC_M (show kd 3 = 18 from rfl) (by omega) g_C p0 (fun r5 z5 w5_0 => ?_)) (by decide))
      skip
      refine jr_s rfl rfl (Or.inr rfl) ⟨Nat.le_of_ble_eq_true rfl, Nat.le_of_ble_eq_true rfl⟩ rfl rfl (jc.deep (c_PacketWall_isCarriedKind_x hC_M (by omega) (fun r6 z6 w6_0 w6_1 => ?_)) (by decide))
      refine jr.if_eq rfl rfl (by omega) (fun h54 => ?_) (fun h54 => ?_)
      · refine jr.iconst rfl ?_
        refine jr.istore rfl (by decide) rfl ?_
        refine jr.lload_n rfl rfl ?_
        refine jr.ldc2 (x := 3) rfl rfl (by decide) ?_
        refine jr.lcmp_eq rfl rfl rfl (by omega) (by omega) (fun h68 => ?_) (fun h68 => ?_)
        · refine jr.iload rfl rfl ?_
          refine jr.if_eq rfl rfl (by omega) (fun _ => ?_) (fun h => absurd (by decide) h)
          refine jr.iconst rfl ?_
          exact jr.ireturn rfl rfl rfl (q _ (by omega) (by have a0 : kA f N C I = r1 := w1_0.symm; have a1 : vA f N C I 0 = r2 := w2_0.symm; have c1 : kA f N C (I + 1) = r3 := w3_0.symm; have c2 : kA f N C (I + 2) = r5 := w5_0.symm; exact Or.inr ⟨rfl, fun h => by unfold qfF at h; omega⟩))
        · refine jr.lload_n rfl rfl ?_
          refine jr.ldc2 (x := 11) rfl rfl (by decide) ?_
          refine jr.lcmp_ne rfl rfl rfl (by omega) (by omega) (fun h76 => ?_) (fun h76 => ?_)
          · refine jr.iconst rfl ?_
            exact jr.ireturn rfl rfl rfl (q _ (by omega) (by have a0 : kA f N C I = r1 := w1_0.symm; have a1 : vA f N C I 0 = r2 := w2_0.symm; have c1 : kA f N C (I + 1) = r3 := w3_0.symm; have c2 : kA f N C (I + 2) = r5 := w5_0.symm; exact Or.inr ⟨rfl, fun h => by unfold qfF at h; omega⟩))
          · refine jr.iload rfl rfl ?_
            refine jr.if_eq rfl rfl (by omega) (fun _ => ?_) (fun h => absurd (by decide) h)
            refine jr.iconst rfl ?_
            exact jr.ireturn rfl rfl rfl (q _ (by omega) (by have a0 : kA f N C I = r1 := w1_0.symm; have a1 : vA f N C I 0 = r2 := w2_0.symm; have c1 : kA f N C (I + 1) = r3 := w3_0.symm; have c2 : kA f N C (I + 2) = r5 := w5_0.symm; exact Or.inr ⟨rfl, fun h => by unfold qfF at h; omega⟩))
      · refine jr.iconst rfl ?_
        refine jr.goto rfl rfl ?_
        refine jr.istore rfl (by decide) rfl ?_
        refine jr.lload_n rfl rfl ?_
        refine jr.ldc2 (x := 3) rfl rfl (by decide) ?_
        refine jr.lcmp_eq rfl rfl rfl (by omega) (by omega) (fun h68 => ?_) (fun h68 => ?_)
        · refine jr.iload rfl rfl ?_
          refine jr.if_eq rfl rfl (by omega) (fun h => absurd h (by decide)) (fun _ => ?_)
          refine jr.iconst rfl ?_
          refine jr.goto rfl rfl ?_
          exact jr.ireturn rfl rfl rfl (q _ (by omega) (by have a0 : kA f N C I = r1 := w1_0.symm; have a1 : vA f N C I 0 = r2 := w2_0.symm; have c1 : kA f N C (I + 1) = r3 := w3_0.symm; have c2 : kA f N C (I + 2) = r5 := w5_0.symm; exact Or.inl ⟨rfl, by unfold qfF; omega⟩))
        · refine jr.lload_n rfl rfl ?_
          refine jr.ldc2 (x := 11) rfl rfl (by decide) ?_
          refine jr.lcmp_ne rfl rfl rfl (by omega) (by omega) (fun h76 => ?_) (fun h76 => ?_)
          · refine jr.iconst rfl ?_
            exact jr.ireturn rfl rfl rfl (q _ (by omega) (by have a0 : kA f N C I = r1 := w1_0.symm; have a1 : vA f N C I 0 = r2 := w2_0.symm; have c1 : kA f N C (I + 1) = r3 := w3_0.symm; have c2 : kA f N C (I + 2) = r5 := w5_0.symm; exact Or.inr ⟨rfl, fun h => by unfold qfF at h; omega⟩))
          · refine jr.iload rfl rfl ?_
            refine jr.if_eq rfl rfl (by omega) (fun h => absurd h (by decide)) (fun _ => ?_)
            refine jr.iconst rfl ?_
            refine jr.goto rfl rfl ?_
            exact jr.ireturn rfl rfl rfl (q _ (by omega) (by have a0 : kA f N C I = r1 := w1_0.symm; have a1 : vA f N C I 0 = r2 := w2_0.symm; have c1 : kA f N C (I + 1) = r3 := w3_0.symm; have c2 : kA f N C (I + 2) = r5 := w5_0.symm; exact Or.inl ⟨rfl, by unfold qfF; omega⟩))
  · refine jr.iconst rfl ?_
    exact jr.ireturn rfl rfl rfl (q _ (by omega) (Or.inr ⟨rfl, fun h => by unfold qfF at h; rw [← w1_0] at h; omega⟩))
def W_c_Flows_findEnds_x : List (Nat × Nat) := [(1, 1), (1, 2), (2, 1000), (7, 1000), (9, 3), (9, 4), (9, 5)]
theorem c_Flows_findEnds_x {A : Nat → Option (Nat × (Nat → Int32))} {Q : Option Value → jm → Prop} {f : Int → Int} {N : Int} {T : jm} {M : jm} (hC_M : CI M) (ht_M : FR W_c_Flows_findEnds_x T M) {C : Int} (g_C : M 3 3 = C) {F : Int} (g_F : M 3 4 = F) (p0 : T = M) (p1 : HS M 3 f N) (q : ∀ (r : Int) (M' : jm), CI M' → FR W_c_Flows_findEnds_x T M' → 0 ≤ r ∧ r ≤ 1 → (FND T M' f N C F r) → Q (some (.int (Int32.ofInt r))) M') : jc A 5 89 [.ref (15), .ref (3)] M Q := by
  refine jc_of (m := xm_89) rfl (Nat.le_of_ble_eq_true rfl) rfl ?_
  have b_C : 0 ≤ C ∧ C ≤ 12 := by rw [← g_C]; exact (CI.r hC_M (show kd 3 = 18 from rfl) (by decide) 3)
  have b_F : (-2147483648) ≤ F ∧ F ≤ 2147483647 := by rw [← g_F]; exact (CI.r hC_M (show kd 3 = 18 from rfl) (by decide) 4)
  refine jr.aload_n rfl rfl ?_
  refine jr.iconst rfl ?_
  refine jr.putf (i := 5) (x := 0) rfl rfl (by decide) rfl (by decide) rfl rfl rfl rfl rfl ?_
  refine jr.aload_n rfl rfl ?_
  refine jr.aload_n rfl rfl ?_
  refine jr.bipush rfl (by decide) ?_
  refine jr_v rfl rfl (Or.inl rfl) rfl rfl (by decide) rfl ⟨rfl, Nat.le_of_ble_eq_true rfl, Nat.le_of_ble_eq_true rfl⟩ rfl (jc.deep (c_Headers_firstOf_x (CI.u hC_M (i := 5) (show kd 15 = 9 from rfl) (show (0 : Int) ≤ _ ∧ _ ≤ (1 : Int) from by omega) rfl) (show kd 3 = 18 from rfl) (by omega) ((ju_c _ _ (by decide)).trans g_C) (HS.fr p1 (show kd 3 = 18 from rfl) hC_M (FR.o (FR.rfl [(9, 5)] M) (show kd 15 = 9 from rfl) rfl) rfl) (fun r1 z1 w1_0 => ?_)) (by decide))
  have hnr := ntf_r (f := f) (N := N) (C := C) (by omega)
  rw [← w1_0] at hnr
  refine jr.putf (i := 3) (x := r1) rfl rfl (by decide) rfl (by decide) rfl rfl rfl rfl rfl ?_
  refine jr.aload_n rfl rfl ?_
  refine jr.getf (i := 4) (x := F) (v := .int (Int32.ofInt (F))) rfl rfl (by decide) rfl (by decide) rfl rfl ((ju_c _ _ (by decide)).trans ((ju_c _ _ (by decide)).trans g_F)) rfl ?_
  refine jr.if_ne rfl rfl (by omega) (fun h19 => ?_) (fun h19 => ?_)
  · refine jr.iconst rfl ?_
    exact jr.ireturn rfl rfl rfl (q _ _ (CI.u (CI.u hC_M (i := 5) (show kd 15 = 9 from rfl) (show (0 : Int) ≤ _ ∧ _ ≤ (1 : Int) from by omega) rfl) (i := 3) (show kd 15 = 9 from rfl) (show (-2147483648 : Int) ≤ _ ∧ _ ≤ (2147483647 : Int) from by omega) rfl) (FR.o (FR.o ht_M (show kd 15 = 9 from rfl) rfl) (show kd 15 = 9 from rfl) rfl) (by omega) (by have hn : ntf f N C = r1 := w1_0.symm; exact Or.inl ⟨fun h => by unfold heF at h; rw [hn] at h; omega, rfl, ⟨fun b k b0 b1 b2 b3 => by rw [ju_c _ _ b0, ju_c _ _ b0, p0], fun k k3 k4 k5 => by rw [ju_i _ _ k3, ju_i _ _ k5, p0]⟩⟩))
  · refine jr.aload_n rfl rfl ?_
    refine jr.getf (i := 3) (x := r1) (v := .int (Int32.ofInt (r1))) rfl rfl (by decide) rfl (by decide) rfl rfl (ju_same _ _ _ _) rfl ?_
    refine jr.iconst rfl ?_
    refine jr.icmp_eq rfl rfl (by omega) (by omega) (fun h27 => ?_) (fun h27 => ?_)
    · refine jr.iconst rfl ?_
      exact jr.ireturn rfl rfl rfl (q _ _ (CI.u (CI.u hC_M (i := 5) (show kd 15 = 9 from rfl) (show (0 : Int) ≤ _ ∧ _ ≤ (1 : Int) from by omega) rfl) (i := 3) (show kd 15 = 9 from rfl) (show (-2147483648 : Int) ≤ _ ∧ _ ≤ (2147483647 : Int) from by omega) rfl) (FR.o (FR.o ht_M (show kd 15 = 9 from rfl) rfl) (show kd 15 = 9 from rfl) rfl) (by omega) (by have hn : ntf f N C = r1 := w1_0.symm; exact Or.inl ⟨fun h => by unfold heF at h; rw [hn] at h; omega, rfl, ⟨fun b k b0 b1 b2 b3 => by rw [ju_c _ _ b0, ju_c _ _ b0, p0], fun k k3 k4 k5 => by rw [ju_i _ _ k3, ju_i _ _ k5, p0]⟩⟩))
    · refine jr.aload_n rfl rfl ?_
      refine jr_v rfl rfl (Or.inl rfl) rfl rfl (by decide) rfl ⟨rfl, Nat.le_of_ble_eq_true rfl, Nat.le_of_ble_eq_true rfl⟩ rfl (jc.deep (c_Headers_pieceHeader_x (CI.u (CI.u hC_M (i := 5) (show kd 15 = 9 from rfl) (show (0 : Int) ≤ _ ∧ _ ≤ (1 : Int) from by omega) rfl) (i := 3) (show kd 15 = 9 from rfl) (show (-2147483648 : Int) ≤ _ ∧ _ ≤ (2147483647 : Int) from by omega) rfl) (show kd 3 = 18 from rfl) ((ju_c _ _ (by decide)).trans ((ju_c _ _ (by decide)).trans g_C)) ((ju_c _ _ (by decide)).trans ((ju_c _ _ (by decide)).trans g_F)) (HS.fr p1 (show kd 3 = 18 from rfl) hC_M (FR.o (FR.o (FR.rfl [(9, 3), (9, 5)] M) (show kd 15 = 9 from rfl) rfl) (show kd 15 = 9 from rfl) rfl) rfl) (fun r2 z2 w2_0 => ?_)) (by decide))
      refine jr.iconst rfl ?_
      refine jr.icmp_eq rfl rfl (by omega) (by omega) (fun h35 => ?_) (fun h35 => ?_)
      · refine jr.aload_n rfl rfl ?_
        refine jr.aload_n rfl rfl ?_
        refine jr.aload_n rfl rfl ?_
        refine jr.getf (i := 3) (x := r1) (v := .int (Int32.ofInt (r1))) rfl rfl (by decide) rfl (by decide) rfl rfl (ju_same _ _ _ _) rfl ?_
        refine jr_v rfl rfl (Or.inl rfl) rfl rfl (by decide) rfl ⟨rfl, Nat.le_of_ble_eq_true rfl, Nat.le_of_ble_eq_true rfl⟩ rfl (jc.deep (c_Headers_innerOf_x (CI.u (CI.u hC_M (i := 5) (show kd 15 = 9 from rfl) (show (0 : Int) ≤ _ ∧ _ ≤ (1 : Int) from by omega) rfl) (i := 3) (show kd 15 = 9 from rfl) (show (-2147483648 : Int) ≤ _ ∧ _ ≤ (2147483647 : Int) from by omega) rfl) (show kd 3 = 18 from rfl) (by omega) ((ju_c _ _ (by decide)).trans ((ju_c _ _ (by decide)).trans g_C)) (HS.fr p1 (show kd 3 = 18 from rfl) hC_M (FR.o (FR.o (FR.rfl [(9, 3), (9, 5)] M) (show kd 15 = 9 from rfl) rfl) (show kd 15 = 9 from rfl) rfl) rfl) (fun r3 z3 w3_0 => ?_)) (by decide))
        have hir := inf_r (f := f) (N := N) (C := C) (x := r1) (by omega)
        rw [← w3_0] at hir
        refine jr.putf (i := 4) (x := r3) rfl rfl (by decide) rfl (by decide) rfl rfl rfl rfl rfl ?_
        refine jr.aload_n rfl rfl ?_
        refine jr.aload_n rfl rfl ?_
        refine jr.getf (i := 4) (x := r3) (v := .int (Int32.ofInt (r3))) rfl rfl (by decide) rfl (by decide) rfl rfl (ju_same _ _ _ _) rfl ?_
        refine jr_v rfl rfl (Or.inl rfl) rfl rfl (by decide) rfl ⟨rfl, Nat.le_of_ble_eq_true rfl, Nat.le_of_ble_eq_true rfl⟩ rfl (jc.deep (c_Headers_kindAt_x (CI.u (CI.u (CI.u hC_M (i := 5) (show kd 15 = 9 from rfl) (show (0 : Int) ≤ _ ∧ _ ≤ (1 : Int) from by omega) rfl) (i := 3) (show kd 15 = 9 from rfl) (show (-2147483648 : Int) ≤ _ ∧ _ ≤ (2147483647 : Int) from by omega) rfl) (i := 4) (show kd 15 = 9 from rfl) (show (-2147483648 : Int) ≤ _ ∧ _ ≤ (2147483647 : Int) from by omega) rfl) (show kd 3 = 18 from rfl) (by omega) ((ju_c _ _ (by decide)).trans ((ju_c _ _ (by decide)).trans ((ju_c _ _ (by decide)).trans g_C))) (HS.fr p1 (show kd 3 = 18 from rfl) hC_M (FR.o (FR.o (FR.o (FR.rfl [(9, 3), (9, 4), (9, 5)] M) (show kd 15 = 9 from rfl) rfl) (show kd 15 = 9 from rfl) rfl) (show kd 15 = 9 from rfl) rfl) rfl) (fun r4 z4 w4_0 => ?_)) (by decide))
        have hkr : r4 = -1 ∨ (0 ≤ r3 ∧ r3 < C) := Or.elim (Decidable.em (r4 = -1)) (fun h => Or.inl h) (fun h => Or.inr (kA_in (by rw [← w4_0]; exact h)))
        refine jr_s rfl rfl (Or.inr rfl) ⟨Nat.le_of_ble_eq_true rfl, Nat.le_of_ble_eq_true rfl⟩ rfl rfl (jc.deep (c_PacketWall_isCarriedKind_x (CI.u (CI.u (CI.u hC_M (i := 5) (show kd 15 = 9 from rfl) (show (0 : Int) ≤ _ ∧ _ ≤ (1 : Int) from by omega) rfl) (i := 3) (show kd 15 = 9 from rfl) (show (-2147483648 : Int) ≤ _ ∧ _ ≤ (2147483647 : Int) from by omega) rfl) (i := 4) (show kd 15 = 9 from rfl) (show (-2147483648 : Int) ≤ _ ∧ _ ≤ (2147483647 : Int) from by omega) rfl) (by omega) (fun r5 z5 w5_0 w5_1 => ?_)) (by decide))
        refine jr.if_ne rfl rfl (by omega) (fun h63 => ?_) (fun h63 => ?_)
        · refine jr.aload_n rfl rfl ?_
          refine jr.aload_n rfl rfl ?_
          refine jr.aload_n rfl rfl ?_
          refine jr_v rfl rfl (Or.inl rfl) rfl rfl (by decide) rfl ⟨rfl, Nat.le_of_ble_eq_true rfl, Nat.le_of_ble_eq_true rfl⟩ rfl (jc.deep (c_Flows_isQuoting_x (CI.u (CI.u (CI.u hC_M (i := 5) (show kd 15 = 9 from rfl) (show (0 : Int) ≤ _ ∧ _ ≤ (1 : Int) from by omega) rfl) (i := 3) (show kd 15 = 9 from rfl) (show (-2147483648 : Int) ≤ _ ∧ _ ≤ (2147483647 : Int) from by omega) rfl) (i := 4) (show kd 15 = 9 from rfl) (show (-2147483648 : Int) ≤ _ ∧ _ ≤ (2147483647 : Int) from by omega) rfl)  ((ju_c _ _ (by decide)).trans ((ju_c _ _ (by decide)).trans ((ju_c _ _ (by decide)).trans g_C))) (ju_same _ _ _ _) (HS.fr p1 (show kd 3 = 18 from rfl) hC_M (FR.o (FR.o (FR.o (FR.rfl [(9, 3), (9, 4), (9, 5)] M) (show kd 15 = 9 from rfl) rfl) (show kd 15 = 9 from rfl) rfl) (show kd 15 = 9 from rfl) rfl) rfl) (by omega) (fun r6 z6 w6_0 => ?_)) (by decide))
          refine jr.putf (i := 5) (x := r6) rfl rfl (by decide) rfl (by decide) rfl rfl rfl (j_zr (by omega)) (j_fz (by omega)) ?_
          refine jr.aload_n rfl rfl ?_
          refine jr.getf (i := 5) (x := r6) (v := .int (Int32.ofInt (r6))) rfl rfl (by decide) rfl (by decide) rfl rfl (ju_same _ _ _ _) rfl ?_
          refine jr.if_eq rfl rfl (by omega) (fun h81 => ?_) (fun h81 => ?_)
          · refine jr.aload_n rfl rfl ?_
            refine jr.getf (i := 2) (v := .ref 18) rfl rfl (by decide) rfl (by decide) rfl rfl rfl rfl ?_
            refine jr.aload_n rfl rfl ?_
            refine jr.aload_n rfl rfl ?_
            refine jr.getf (i := 3) (x := r1) (v := .int (Int32.ofInt (r1))) rfl rfl (by decide) rfl (by decide) rfl rfl ((ju_i _ _ (by decide)).trans ((ju_i _ _ (by decide)).trans (ju_same _ _ _ _))) rfl ?_
            refine jr.aload_n rfl rfl ?_
            refine jr.getf (i := 4) (x := r3) (v := .int (Int32.ofInt (r3))) rfl rfl (by decide) rfl (by decide) rfl rfl ((ju_i _ _ (by decide)).trans (ju_same _ _ _ _)) rfl ?_
            refine jr_v rfl rfl (Or.inl rfl) rfl rfl (by decide) rfl ⟨rfl, Nat.le_of_ble_eq_true rfl, Nat.le_of_ble_eq_true rfl⟩ rfl (jc.deep (c_Flow_describe_x (CI.u (CI.u (CI.u (CI.u hC_M (i := 5) (show kd 15 = 9 from rfl) (show (0 : Int) ≤ _ ∧ _ ≤ (1 : Int) from by omega) rfl) (i := 3) (show kd 15 = 9 from rfl) (show (-2147483648 : Int) ≤ _ ∧ _ ≤ (2147483647 : Int) from by omega) rfl) (i := 4) (show kd 15 = 9 from rfl) (show (-2147483648 : Int) ≤ _ ∧ _ ≤ (2147483647 : Int) from by omega) rfl) (i := 5) (show kd 15 = 9 from rfl) (show (0 : Int) ≤ _ ∧ _ ≤ (1 : Int) from by omega) rfl) (FR.rfl _ ((ju (ju (ju (ju M 15 5 0) 15 3 r1) 15 4 r3) 15 5 r6))) (by omega) (by omega) ((ju_c _ _ (by decide)).trans ((ju_c _ _ (by decide)).trans ((ju_c _ _ (by decide)).trans ((ju_c _ _ (by decide)).trans g_C)))) rfl (HS.fr p1 (show kd 3 = 18 from rfl) hC_M (FR.o (FR.o (FR.o (FR.o (FR.rfl [(9, 3), (9, 4), (9, 5)] M) (show kd 15 = 9 from rfl) rfl) (show kd 15 = 9 from rfl) rfl) (show kd 15 = 9 from rfl) rfl) (show kd 15 = 9 from rfl) rfl) rfl) (by rw [← w4_0]; omega) (fun M7 hC_M7 hf_M7 w7_0 => ?_)) (by decide))
            have ht_M7 : FR W_c_Flows_findEnds_x T M7 := FR.t (FR.o (FR.o (FR.o (FR.o ht_M (show kd 15 = 9 from rfl) rfl) (show kd 15 = 9 from rfl) rfl) (show kd 15 = 9 from rfl) rfl) (show kd 15 = 9 from rfl) rfl) hf_M7 (kw_sub rfl)
            refine jr.iconst rfl ?_
            have e8 : M7 15 5 = r6 := (hf_M7.g (show kd 15 = 9 from rfl) rfl).trans (ju_same _ _ _ _)
            have e9 : M7 15 3 = r1 := (hf_M7.g (show kd 15 = 9 from rfl) rfl).trans ((ju_i _ _ (by decide)).trans ((ju_i _ _ (by decide)).trans (ju_same _ _ _ _)))
            have e10 : M7 15 4 = r3 := (hf_M7.g (show kd 15 = 9 from rfl) rfl).trans ((ju_i _ _ (by decide)).trans (ju_same _ _ _ _))
            exact jr.ireturn rfl rfl rfl (q _ _ hC_M7 ht_M7 (by omega) (by have hn : ntf f N C = r1 := w1_0.symm; have hi : inf f N C r1 = r3 := w3_0.symm; have hk : kA f N C r3 = r4 := w4_0.symm; have hp := w2_0; unfold FND; rw [hn, hi]; exact Or.inr ⟨(by unfold heF; rw [hn, hi, hk]; omega), rfl, ⟨fun b k b0 b1 b2 b3 => by rw [w7_0.2.2 b k b1 b2 b3, ju_c _ _ b0, ju_c _ _ b0, ju_c _ _ b0, ju_c _ _ b0, p0], fun k k3 k4 k5 => by rw [w7_0.2.2 15 k (by decide) (by decide) (by decide), ju_i _ _ k5, ju_i _ _ k4, ju_i _ _ k3, ju_i _ _ k5, p0]⟩, ⟨e9, e10⟩, Or.inr ⟨(w6_0.resolve_left (fun h => by omega)).2, (e8.trans (by omega)), ⟨w7_0.1, fun s s0 s1 => w7_0.2.1 s s0 s1⟩⟩⟩))
          · refine jr.aload_n rfl rfl ?_
            refine jr.getf (i := 2) (v := .ref 18) rfl rfl (by decide) rfl (by decide) rfl rfl rfl rfl ?_
            refine jr.aload_n rfl rfl ?_
            refine jr.aload_n rfl rfl ?_
            refine jr.getf (i := 4) (x := r3) (v := .int (Int32.ofInt (r3))) rfl rfl (by decide) rfl (by decide) rfl rfl ((ju_i _ _ (by decide)).trans (ju_same _ _ _ _)) rfl ?_
            refine jr.iconst rfl ?_
            refine jr.iadd rfl ?_
            refine jr.aload_n rfl rfl ?_
            refine jr.getf (i := 4) (x := r3) (v := .int (Int32.ofInt (r3))) rfl rfl (by decide) rfl (by decide) rfl rfl ((ju_i _ _ (by decide)).trans (ju_same _ _ _ _)) rfl ?_
            refine jr.iconst rfl ?_
            refine jr.iadd rfl ?_
            obtain ⟨hq1, hq2, hq3, hq4⟩ := (w6_0.resolve_right (fun h => by omega)).2
            have hz1 := kA_in (f := f) (N := N) (C := C) (x := r3 + 1) (by omega)
            have hz2 := kA_in (f := f) (N := N) (C := C) (x := r3 + 2) (by omega)
            refine jr_v rfl rfl (Or.inl rfl) rfl rfl (by decide) rfl ⟨rfl, Nat.le_of_ble_eq_true rfl, Nat.le_of_ble_eq_true rfl⟩ rfl (jc.deep (c_Flow_describe_x (CI.u (CI.u (CI.u (CI.u hC_M (i := 5) (show kd 15 = 9 from rfl) (show (0 : Int) ≤ _ ∧ _ ≤ (1 : Int) from by omega) rfl) (i := 3) (show kd 15 = 9 from rfl) (show (-2147483648 : Int) ≤ _ ∧ _ ≤ (2147483647 : Int) from by omega) rfl) (i := 4) (show kd 15 = 9 from rfl) (show (-2147483648 : Int) ≤ _ ∧ _ ≤ (2147483647 : Int) from by omega) rfl) (i := 5) (show kd 15 = 9 from rfl) (show (0 : Int) ≤ _ ∧ _ ≤ (1 : Int) from by omega) rfl) (FR.rfl _ ((ju (ju (ju (ju M 15 5 0) 15 3 r1) 15 4 r3) 15 5 r6))) (by omega) (by omega) ((ju_c _ _ (by decide)).trans ((ju_c _ _ (by decide)).trans ((ju_c _ _ (by decide)).trans ((ju_c _ _ (by decide)).trans g_C)))) rfl (HS.fr p1 (show kd 3 = 18 from rfl) hC_M (FR.o (FR.o (FR.o (FR.o (FR.rfl [(9, 3), (9, 4), (9, 5)] M) (show kd 15 = 9 from rfl) rfl) (show kd 15 = 9 from rfl) rfl) (show kd 15 = 9 from rfl) rfl) (show kd 15 = 9 from rfl) rfl) rfl) hq4 (fun M11 hC_M11 hf_M11 w11_0 => ?_)) (by decide))
            have ht_M11 : FR W_c_Flows_findEnds_x T M11 := FR.t (FR.o (FR.o (FR.o (FR.o ht_M (show kd 15 = 9 from rfl) rfl) (show kd 15 = 9 from rfl) rfl) (show kd 15 = 9 from rfl) rfl) (show kd 15 = 9 from rfl) rfl) hf_M11 (kw_sub rfl)
            refine jr.goto rfl rfl ?_
            refine jr.iconst rfl ?_
            have e12 : M11 15 5 = r6 := (hf_M11.g (show kd 15 = 9 from rfl) rfl).trans (ju_same _ _ _ _)
            have e13 : M11 15 3 = r1 := (hf_M11.g (show kd 15 = 9 from rfl) rfl).trans ((ju_i _ _ (by decide)).trans ((ju_i _ _ (by decide)).trans (ju_same _ _ _ _)))
            have e14 : M11 15 4 = r3 := (hf_M11.g (show kd 15 = 9 from rfl) rfl).trans ((ju_i _ _ (by decide)).trans (ju_same _ _ _ _))
            exact jr.ireturn rfl rfl rfl (q _ _ hC_M11 ht_M11 (by omega) (by have hn : ntf f N C = r1 := w1_0.symm; have hi : inf f N C r1 = r3 := w3_0.symm; have hk : kA f N C r3 = r4 := w4_0.symm; have hp := w2_0; unfold FND; rw [hn, hi]; exact Or.inr ⟨(by unfold heF; rw [hn, hi, hk]; omega), rfl, ⟨fun b k b0 b1 b2 b3 => by rw [w11_0.2.2 b k b1 b2 b3, ju_c _ _ b0, ju_c _ _ b0, ju_c _ _ b0, ju_c _ _ b0, p0], fun k k3 k4 k5 => by rw [w11_0.2.2 15 k (by decide) (by decide) (by decide), ju_i _ _ k5, ju_i _ _ k4, ju_i _ _ k3, ju_i _ _ k5, p0]⟩, ⟨e13, e14⟩, Or.inl ⟨(w6_0.resolve_right (fun h => by omega)).2, (e12.trans (by omega)), ⟨w11_0.1, fun s s0 s1 => w11_0.2.1 s s0 s1⟩⟩⟩))
        · refine jr.iconst rfl ?_
          exact jr.ireturn rfl rfl rfl (q _ _ (CI.u (CI.u (CI.u hC_M (i := 5) (show kd 15 = 9 from rfl) (show (0 : Int) ≤ _ ∧ _ ≤ (1 : Int) from by omega) rfl) (i := 3) (show kd 15 = 9 from rfl) (show (-2147483648 : Int) ≤ _ ∧ _ ≤ (2147483647 : Int) from by omega) rfl) (i := 4) (show kd 15 = 9 from rfl) (show (-2147483648 : Int) ≤ _ ∧ _ ≤ (2147483647 : Int) from by omega) rfl) (FR.o (FR.o (FR.o ht_M (show kd 15 = 9 from rfl) rfl) (show kd 15 = 9 from rfl) rfl) (show kd 15 = 9 from rfl) rfl) (by omega) (by have hn : ntf f N C = r1 := w1_0.symm; have hi : inf f N C r1 = r3 := w3_0.symm; have hk : kA f N C r3 = r4 := w4_0.symm; have hp := w2_0; exact Or.inl ⟨fun h => by unfold heF at h; rw [hn, hi, hk] at h; omega, rfl, ⟨fun b k b0 b1 b2 b3 => by rw [ju_c _ _ b0, ju_c _ _ b0, ju_c _ _ b0, p0], fun k k3 k4 k5 => by rw [ju_i _ _ k4, ju_i _ _ k3, ju_i _ _ k5, p0]⟩⟩))
      · refine jr.iconst rfl ?_
        exact jr.ireturn rfl rfl rfl (q _ _ (CI.u (CI.u hC_M (i := 5) (show kd 15 = 9 from rfl) (show (0 : Int) ≤ _ ∧ _ ≤ (1 : Int) from by omega) rfl) (i := 3) (show kd 15 = 9 from rfl) (show (-2147483648 : Int) ≤ _ ∧ _ ≤ (2147483647 : Int) from by omega) rfl) (FR.o (FR.o ht_M (show kd 15 = 9 from rfl) rfl) (show kd 15 = 9 from rfl) rfl) (by omega) (by have hn : ntf f N C = r1 := w1_0.symm; exact Or.inl ⟨fun h => by unfold heF at h; rw [hn] at h; first | omega | (have h9 := w2_0; omega), rfl, ⟨fun b k b0 b1 b2 b3 => by rw [ju_c _ _ b0, ju_c _ _ b0, p0], fun k k3 k4 k5 => by rw [ju_i _ _ k3, ju_i _ _ k5, p0]⟩⟩))
