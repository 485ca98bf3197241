section
/-! ===== the class: a packet's ends ===== -/
noncomputable def qfF (f : Int → Int) (N C i : Int) : Prop := kA f N C i = 7 ∧ (vA f N C i 0 = 3 ∨ vA f N C i 0 = 11) ∧ (kA f N C (i + 1) = 2 ∨ kA f N C (i + 1) = 3) ∧ (7 ≤ kA f N C (i + 2) ∧ kA f N C (i + 2) ≤ 9)
noncomputable def heF (f : Int → Int) (N C F : Int) : Prop := F = 0 ∧ ntf f N C ≠ -1 ∧ pcf f N C = -1 ∧ (7 ≤ kA f N C (inf f N C (ntf f N C)) ∧ kA f N C (inf f N C (ntf f N C)) ≤ 9)
noncomputable def E2F (M : jm) (f : Int → Int) (N C y z : Int) : Prop := (M 18 1 = (if kA f N C y = 3 then 1 else 0) ∧ M 18 2 = nxk (kA f N C z)) ∧ ∀ s : Int, 0 ≤ s → s < 2 → M 19 s = adf f N C y s ∧ M 20 s = epf f N C z s
noncomputable def OT5 (T M : jm) : Prop := (∀ (b : Nat) (k : Int), b ≠ 15 → b ≠ 18 → b ≠ 19 → b ≠ 20 → M b k = T b k) ∧ ∀ k : Int, k ≠ 3 → k ≠ 4 → k ≠ 5 → M 15 k = T 15 k
noncomputable def FND (T M : jm) (f : Int → Int) (N C F r : Int) : Prop := (¬ heF f N C F ∧ r = 0 ∧ OT5 T M) ∨ (heF f N C F ∧ r = 1 ∧ OT5 T M ∧ (M 15 3 = ntf f N C ∧ M 15 4 = inf f N C (ntf f N C)) ∧ ((qfF f N C (inf f N C (ntf f N C)) ∧ M 15 5 = 1 ∧ E2F M f N C (inf f N C (ntf f N C) + 1) (inf f N C (ntf f N C) + 2)) ∨ (¬ qfF f N C (inf f N C (ntf f N C)) ∧ M 15 5 = 0 ∧ E2F M f N C (ntf f N C) (inf f N C (ntf f N C)))))
theorem c_Flows_isQuoting_x {A : Nat → Option (Nat × (Nat → Int32))} {Q : Option Value → jm → Prop} {f : Int → Int} {N : Int} {M : jm} (hC_M : CI M) {C : Int} (g_C : M 3 3 = C) {I : Int} (g_I : M 15 4 = I) (p0 : HS M 3 f N) (p1 : -1 ≤ I ∧ I ≤ 11) (q : ∀ (r : Int), 0 ≤ r ∧ r ≤ 1 → ((r = 1 ∧ qfF f N C I) ∨ (r = 0 ∧ ¬ qfF f N C I)) → Q (some (.int (Int32.ofInt r))) M) : jc A 3 90 [.ref (15), .ref (3)] M Q := by
  refine jc_of (m := xm_90) rfl (Nat.le_of_ble_eq_true rfl) rfl ?_
  have b_C : 0 ≤ C ∧ C ≤ 12 := by rw [← g_C]; exact (CI.r hC_M (show kd 3 = 18 from rfl) (by decide) 3)
  have b_I : (-2147483648) ≤ I ∧ I ≤ 2147483647 := by rw [← g_I]; exact (CI.r hC_M (show kd 15 = 9 from rfl) (by decide) 4)
  refine jr.aload_n rfl rfl ?_
  refine jr.aload_n rfl rfl ?_
  refine jr.getf (i := 4) (x := I) (v := .int (Int32.ofInt (I))) rfl rfl (by decide) rfl (by decide) rfl rfl g_I rfl ?_
  refine jr_v rfl rfl (Or.inl rfl) rfl rfl (by decide) rfl ⟨rfl, Nat.le_of_ble_eq_true rfl, Nat.le_of_ble_eq_true rfl⟩ rfl (jc.deep (c_Headers_kindAt_x hC_M (show kd 3 = 18 from rfl) (by omega) g_C p0 (fun r1 z1 w1_0 => ?_)) (by decide))
  refine jr.bipush rfl (by decide) ?_
  refine jr.icmp_eq rfl rfl (by omega) (by omega) (fun h10 => ?_) (fun h10 => ?_)
  · refine jr.aload_n rfl rfl ?_
    refine jr.aload_n rfl rfl ?_
    refine jr.getf (i := 4) (x := I) (v := .int (Int32.ofInt (I))) rfl rfl (by decide) rfl (by decide) rfl rfl g_I rfl ?_
    refine jr.iconst rfl ?_
    refine jr_v rfl rfl (Or.inl rfl) rfl rfl (by decide) rfl ⟨rfl, Nat.le_of_ble_eq_true rfl, Nat.le_of_ble_eq_true rfl⟩ rfl (jc.deep (c_Headers_valueOf_x hC_M (show kd 3 = 18 from rfl) (by omega) (by omega) g_C p0 (fun r2 z2 w2_0 => ?_)) (by decide))
    refine jr.lstore_n (ls' := [_, _, _]) rfl (by decide) rfl ?_
    refine jr.aload_n rfl rfl ?_
    refine jr.aload_n rfl rfl ?_
    refine jr.getf (i := 4) (x := I) (v := .int (Int32.ofInt (I))) rfl rfl (by decide) rfl (by decide) rfl rfl g_I rfl ?_
    refine jr.iconst rfl ?_
    refine jr.iadd rfl ?_
    refine jr_v rfl rfl (Or.inl rfl) rfl rfl (by decide) rfl ⟨rfl, Nat.le_of_ble_eq_true rfl, Nat.le_of_ble_eq_true rfl⟩ rfl (jc.deep (c_Headers_kindAt_x hC_M (show kd 3 = 18 from rfl) (by omega) g_C p0 (fun r3 z3 w3_0 => ?_)) (by decide))
    skip
    refine jr_s rfl rfl (Or.inr rfl) ⟨Nat.le_of_ble_eq_true rfl, Nat.le_of_ble_eq_true rfl⟩ rfl rfl (jc.deep (c_PacketWall_isNetKind_x hC_M (by omega) (fun r4 z4 w4_0 w4_1 => ?_)) (by decide))
    refine jr.if_eq rfl rfl (by omega) (fun h38 => ?_) (fun h38 => ?_)
    · refine jr.iconst rfl ?_
      refine jr.istore (ls' := [_, _, _, _]) rfl (by decide) rfl ?_
      refine jr.lload_n rfl rfl ?_
      refine jr.ldc2 (x := 3) rfl rfl (by decide) ?_
      refine jr.lcmp_eq rfl rfl rfl (by omega) (by omega) (fun h68 => ?_) (fun h68 => ?_)
      · refine jr.iload rfl rfl ?_
        refine jr.if_eq rfl rfl (by omega) (fun _ => ?_) (fun h => absurd (by decide) h)
        refine jr.iconst rfl ?_
        exact jr.ireturn rfl rfl rfl (q _ (by omega) (by have a0 : kA f N C I = r1 := w1_0.symm; have a1 : vA f N C I 0 = r2 := w2_0.symm; have c1 : kA f N C (I + 1) = r3 := w3_0.symm; exact Or.inr ⟨rfl, fun h => by unfold qfF at h; omega⟩))
      · refine jr.lload_n rfl rfl ?_
        refine jr.ldc2 (x := 11) rfl rfl (by decide) ?_
        refine jr.lcmp_ne rfl rfl rfl (by omega) (by omega) (fun h76 => ?_) (fun h76 => ?_)
        · refine jr.iconst rfl ?_
          exact jr.ireturn rfl rfl rfl (q _ (by omega) (by have a0 : kA f N C I = r1 := w1_0.symm; have a1 : vA f N C I 0 = r2 := w2_0.symm; have c1 : kA f N C (I + 1) = r3 := w3_0.symm; exact Or.inr ⟨rfl, fun h => by unfold qfF at h; omega⟩))
        · refine jr.iload rfl rfl ?_
          refine jr.if_eq rfl rfl (by omega) (fun _ => ?_) (fun h => absurd (by decide) h)
          refine jr.iconst rfl ?_
          exact jr.ireturn rfl rfl rfl (q _ (by omega) (by have a0 : kA f N C I = r1 := w1_0.symm; have a1 : vA f N C I 0 = r2 := w2_0.symm; have c1 : kA f N C (I + 1) = r3 := w3_0.symm; exact Or.inr ⟨rfl, fun h => by unfold qfF at h; omega⟩))
    · refine jr.aload_n rfl rfl ?_
      refine jr.aload_n rfl rfl ?_
      refine jr.getf (i := 4) (x := I) (v := .int (Int32.ofInt (I))) rfl rfl (by decide) rfl (by decide) rfl rfl g_I rfl ?_
      refine jr.iconst rfl ?_
      refine jr.iadd rfl ?_
      refine jr_v rfl rfl (Or.inl rfl) rfl rfl (by decide) rfl ⟨rfl, Nat.le_of_ble_eq_true rfl, Nat.le_of_ble_eq_true rfl⟩ rfl (jc.deep (c_Headers_kindAt_x hC_M (show kd 3 = 18 from rfl) (by omega) g_C p0 (fun r5 z5 w5_0 => ?_)) (by decide))
      skip
      refine jr_s rfl rfl (Or.inr rfl) ⟨Nat.le_of_ble_eq_true rfl, Nat.le_of_ble_eq_true rfl⟩ rfl rfl (jc.deep (c_PacketWall_isCarriedKind_x hC_M (by omega) (fun r6 z6 w6_0 w6_1 => ?_)) (by decide))
      refine jr.if_eq rfl rfl (by omega) (fun h54 => ?_) (fun h54 => ?_)
      · refine jr.iconst rfl ?_
        refine jr.istore (ls' := [_, _, _, _]) rfl (by decide) rfl ?_
        refine jr.lload_n rfl rfl ?_
        refine jr.ldc2 (x := 3) rfl rfl (by decide) ?_
        refine jr.lcmp_eq rfl rfl rfl (by omega) (by omega) (fun h68 => ?_) (fun h68 => ?_)
        · refine jr.iload rfl rfl ?_
          refine jr.if_eq rfl rfl (by omega) (fun _ => ?_) (fun h => absurd (by decide) h)
          refine jr.iconst rfl ?_
          exact jr.ireturn rfl rfl rfl (q _ (by omega) (by have a0 : kA f N C I = r1 := w1_0.symm; have a1 : vA f N C I 0 = r2 := w2_0.symm; have c1 : kA f N C (I + 1) = r3 := w3_0.symm; have c2 : kA f N C (I + 2) = r5 := w5_0.symm; exact Or.inr ⟨rfl, fun h => by unfold qfF at h; omega⟩))
        · refine jr.lload_n rfl rfl ?_
          refine jr.ldc2 (x := 11) rfl rfl (by decide) ?_
          refine jr.lcmp_ne rfl rfl rfl (by omega) (by omega) (fun h76 => ?_) (fun h76 => ?_)
          · refine jr.iconst rfl ?_
            exact jr.ireturn rfl rfl rfl (q _ (by omega) (by have a0 : kA f N C I = r1 := w1_0.symm; have a1 : vA f N C I 0 = r2 := w2_0.symm; have c1 : kA f N C (I + 1) = r3 := w3_0.symm; have c2 : kA f N C (I + 2) = r5 := w5_0.symm; exact Or.inr ⟨rfl, fun h => by unfold qfF at h; omega⟩))
          · refine jr.iload rfl rfl ?_
            refine jr.if_eq rfl rfl (by omega) (fun _ => ?_) (fun h => absurd (by decide) h)
            refine jr.iconst rfl ?_
            exact jr.ireturn rfl rfl rfl (q _ (by omega) (by have a0 : kA f N C I = r1 := w1_0.symm; have a1 : vA f N C I 0 = r2 := w2_0.symm; have c1 : kA f N C (I + 1) = r3 := w3_0.symm; have c2 : kA f N C (I + 2) = r5 := w5_0.symm; exact Or.inr ⟨rfl, fun h => by unfold qfF at h; omega⟩))
      · refine jr.iconst rfl ?_
        refine jr.goto rfl rfl ?_
        refine jr.istore (ls' := [_, _, _, _]) rfl (by decide) rfl ?_
        refine jr.lload_n rfl rfl ?_
        refine jr.ldc2 (x := 3) rfl rfl (by decide) ?_
        refine jr.lcmp_eq rfl rfl rfl (by omega) (by omega) (fun h68 => ?_) (fun h68 => ?_)
        · refine jr.iload rfl rfl ?_
          refine jr.if_eq rfl rfl (by omega) (fun h => absurd h (by decide)) (fun _ => ?_)
          refine jr.iconst rfl ?_
          refine jr.goto rfl rfl ?_
          exact jr.ireturn rfl rfl rfl (q _ (by omega) (by have a0 : kA f N C I = r1 := w1_0.symm; have a1 : vA f N C I 0 = r2 := w2_0.symm; have c1 : kA f N C (I + 1) = r3 := w3_0.symm; have c2 : kA f N C (I + 2) = r5 := w5_0.symm; exact Or.inl ⟨rfl, by unfold qfF; omega⟩))
        · refine jr.lload_n rfl rfl ?_
          refine jr.ldc2 (x := 11) rfl rfl (by decide) ?_
          refine jr.lcmp_ne rfl rfl rfl (by omega) (by omega) (fun h76 => ?_) (fun h76 => ?_)
          · refine jr.iconst rfl ?_
            exact jr.ireturn rfl rfl rfl (q _ (by omega) (by have a0 : kA f N C I = r1 := w1_0.symm; have a1 : vA f N C I 0 = r2 := w2_0.symm; have c1 : kA f N C (I + 1) = r3 := w3_0.symm; have c2 : kA f N C (I + 2) = r5 := w5_0.symm; exact Or.inr ⟨rfl, fun h => by unfold qfF at h; omega⟩))
          · refine jr.iload rfl rfl ?_
            refine jr.if_eq rfl rfl (by omega) (fun h => absurd h (by decide)) (fun _ => ?_)
            refine jr.iconst rfl ?_
            refine jr.goto rfl rfl ?_
            exact jr.ireturn rfl rfl rfl (q _ (by omega) (by have a0 : kA f N C I = r1 := w1_0.symm; have a1 : vA f N C I 0 = r2 := w2_0.symm; have c1 : kA f N C (I + 1) = r3 := w3_0.symm; have c2 : kA f N C (I + 2) = r5 := w5_0.symm; exact Or.inl ⟨rfl, by unfold qfF; omega⟩))
  · refine jr.iconst rfl ?_
    exact jr.ireturn rfl rfl rfl (q _ (by omega) (Or.inr ⟨rfl, fun h => by unfold qfF at h; rw [← w1_0] at h; omega⟩))
noncomputable def W_c_Flows_findEnds_x : List (Nat × Nat) := [(1, 1), (1, 2), (2, 1000), (7, 1000), (9, 3), (9, 4), (9, 5)]
end
