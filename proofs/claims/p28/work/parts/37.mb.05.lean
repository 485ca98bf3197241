theorem r_put {A : Nat → Option (Nat × (Nat → Int32))} {Q : Option Value → jm → Prop} {M : jm} (hI_M : RI M) (hH_M : RH M) (hS_M : RF M) {k : Int} (h_k : (-9223372036854775808) ≤ k ∧ k ≤ 9223372036854775807) {i : Int} (h_i : (-9223372036854775808) ≤ i ∧ i ≤ 9223372036854775807) {v : Int} (h_v : (-9223372036854775808) ≤ v ∧ v ≤ 9223372036854775807) (q : ∀ (M' : jm), RI M' → RH M' → RF M' → (∀ (a : Nat) (i : Int), a ≠ 598 → a ≠ 676 → M' a i = M a i) → (∀ (i : Int), i ≠ 135 → M' 598 i = M 598 i) → Q none M') : jc A 4 397 [.ref (598), .long (Int64.ofInt (k)), .long (Int64.ofInt (i)), .long (Int64.ofInt (v))] M Q := by
  refine jc_of (m := xm_397) rfl (Nat.le_of_ble_eq_true rfl) rfl ?_
  refine jr.aload_n rfl rfl ?_
  refine jr.lload_n rfl rfl ?_
  refine jr.lload_n rfl rfl ?_
  refine jr_v rfl rfl (Or.inl rfl) rfl rfl (by decide) rfl ⟨rfl, Nat.le_of_ble_eq_true rfl, Nat.le_of_ble_eq_true rfl⟩ rfl (jc.deep (r_itemOf hI_M hH_M hS_M  (by omega) (by omega)  (fun r1 M1 hI_M1 hH_M1 hS_M1  z1 w1_0 w1_1 w1_2 => ?_)) (by decide))
  refine jr.lstore rfl (by decide) rfl ?_
  refine jr.aload_n rfl rfl ?_
  obtain ⟨v2, e2⟩ : ∃ z, M1 598 135 = z := ⟨_, rfl⟩
  have b2 : 0 ≤ v2 ∧ v2 ≤ 8 := by rw [← e2]; exact hI_M1 598 135 (by decide)
  refine jr.getf (i := 135) (x := v2) (v := .int (Int32.ofInt (v2))) rfl rfl (by decide) rfl (by decide) rfl rfl e2 rfl ?_
  refine jr.if_eq rfl rfl (by omega) (fun h12 => ?_) (fun h12 => ?_)
  · refine jr.aload_n rfl rfl ?_
    refine jr.getf (i := 117) (v := .ref 674) rfl rfl (by decide) rfl (by decide) rfl rfl rfl rfl ?_
    refine jr.lload_n rfl rfl ?_
    refine jr.l2i rfl ?_
    obtain ⟨v3, e3⟩ : ∃ z, M 674 k = z := ⟨_, rfl⟩
    have b3 : (-1) ≤ v3 ∧ v3 ≤ 6 := by rw [← e3]; exact (by have q := hI_M 674 k (by decide); rw [xri_row rfl rfl] at q; exact q)
    have e4 : M1 674 k = v3 := ((w1_1 674 k (by decide)).trans e3)
    refine jr.iald (i := k) (x := v3) rfl (by decide) rfl (by decide) (by omega) (by omega) e4 ?_
    refine jr.istore rfl (by decide) rfl ?_
    refine jr.bipush rfl (by decide) ?_
    refine jr.lload_n rfl rfl ?_
    refine jr.l2i rfl ?_
    refine jr.imul rfl ?_
    refine jr.lload_n rfl rfl ?_
    refine jr.l2i rfl ?_
    refine jr.iadd rfl ?_
    refine jr.istore rfl (by decide) rfl ?_
    refine jr.aload_n rfl rfl ?_
    refine jr.getf (i := 119) (v := .ref 676) rfl rfl (by decide) rfl (by decide) rfl rfl rfl rfl ?_
    refine jr.iload rfl rfl ?_
    refine jr.iload rfl rfl ?_
    refine jr.if_ne rfl rfl (by omega) (fun h43 => ?_) (fun h43 => ?_)
    · refine jr.iload rfl rfl ?_
      refine jr.iconst rfl ?_
      refine jr.icmp_ne rfl rfl (by omega) (by omega) (fun h57 => ?_) (fun h57 => ?_)
      · refine jr.iload rfl rfl ?_
        refine jr.iconst rfl ?_
        refine jr.icmp_ne rfl rfl (by omega) (by omega) (fun h71 => ?_) (fun h71 => ?_)
        · refine jr.iload rfl rfl ?_
          refine jr.iconst rfl ?_
          refine jr.icmp_ne rfl rfl (by omega) (by omega) (fun h86 => ?_) (fun h86 => ?_)
          · refine jr.lload rfl rfl ?_
            refine jr.last (i := ((40 * k) + i)) (x := v) rfl (by decide) rfl (by decide) (by omega) (by omega) ?_
            exact jr.vreturn rfl rfl (q _ (RI.u hI_M1 (a := 676) (i := ((40 * k) + i)) (by rw [xri_row rfl rfl]; show (-9223372036854775808 : Int) ≤ _ ∧ _ ≤ (9223372036854775807 : Int); omega)) (RH.o hH_M1 (by decide) (by decide) (by decide)) (RF.o hS_M1 (by decide) (by decide))  (fun a i f598 f676 => ((ju_c _ _ f676).trans ((w1_1 a i f598).trans rfl))) (fun i g135 => ((ju_c _ _ (by decide)).trans ((w1_2 i g135).trans rfl))))
          · refine jr.lload rfl rfl ?_
            refine jr.l2i rfl ?_
            refine jr.iw (j_w v) (j_w_eq _) ?_
            have b5 : -2147483648 ≤ j_w v ∧ j_w v ≤ 2147483647 := jb_any _
            generalize j_w v = v5 at b5 ⊢
            refine jr.i2l rfl (by omega) ?_
            refine jr.goto rfl rfl ?_
            refine jr.last (i := ((40 * k) + i)) (x := v5) rfl (by decide) rfl (by decide) (by omega) (by omega) ?_
            exact jr.vreturn rfl rfl (q _ (RI.u hI_M1 (a := 676) (i := ((40 * k) + i)) (by rw [xri_row rfl rfl]; show (-9223372036854775808 : Int) ≤ _ ∧ _ ≤ (9223372036854775807 : Int); omega)) (RH.o hH_M1 (by decide) (by decide) (by decide)) (RF.o hS_M1 (by decide) (by decide))  (fun a i f598 f676 => ((ju_c _ _ f676).trans ((w1_1 a i f598).trans rfl))) (fun i g135 => ((ju_c _ _ (by decide)).trans ((w1_2 i g135).trans rfl))))
        · refine jr.lload rfl rfl ?_
          refine jr.ldc2 (x := 65535) rfl rfl (by decide) ?_
          refine jr.land rfl ?_
          have b6 : 0 ≤ jl_and v 65535 ∧ jl_and v 65535 ≤ 65535 := jl_and_le (by decide)
          generalize jl_and v 65535 = v6 at b6 ⊢
          refine jr.goto rfl rfl ?_
          refine jr.last (i := ((40 * k) + i)) (x := v6) rfl (by decide) rfl (by decide) (by omega) (by omega) ?_
          exact jr.vreturn rfl rfl (q _ (RI.u hI_M1 (a := 676) (i := ((40 * k) + i)) (by rw [xri_row rfl rfl]; show (-9223372036854775808 : Int) ≤ _ ∧ _ ≤ (9223372036854775807 : Int); omega)) (RH.o hH_M1 (by decide) (by decide) (by decide)) (RF.o hS_M1 (by decide) (by decide))  (fun a i f598 f676 => ((ju_c _ _ f676).trans ((w1_1 a i f598).trans rfl))) (fun i g135 => ((ju_c _ _ (by decide)).trans ((w1_2 i g135).trans rfl))))
      · refine jr.lload rfl rfl ?_
        refine jr.l2i rfl ?_
        refine jr.iw (j_w v) (j_w_eq _) ?_
        have b7 : -2147483648 ≤ j_w v ∧ j_w v ≤ 2147483647 := jb_any _
        generalize j_w v = v7 at b7 ⊢
        refine jr.i2s rfl ?_
        have b8 : -2147483648 ≤ j_s v7 ∧ j_s v7 ≤ 2147483647 := jb_any _
        generalize j_s v7 = v8 at b8 ⊢
        refine jr.i2l rfl (by omega) ?_
        refine jr.goto rfl rfl ?_
        refine jr.last (i := ((40 * k) + i)) (x := v8) rfl (by decide) rfl (by decide) (by omega) (by omega) ?_
        exact jr.vreturn rfl rfl (q _ (RI.u hI_M1 (a := 676) (i := ((40 * k) + i)) (by rw [xri_row rfl rfl]; show (-9223372036854775808 : Int) ≤ _ ∧ _ ≤ (9223372036854775807 : Int); omega)) (RH.o hH_M1 (by decide) (by decide) (by decide)) (RF.o hS_M1 (by decide) (by decide))  (fun a i f598 f676 => ((ju_c _ _ f676).trans ((w1_1 a i f598).trans rfl))) (fun i g135 => ((ju_c _ _ (by decide)).trans ((w1_2 i g135).trans rfl))))
    · refine jr.lload rfl rfl ?_
      refine jr.l2i rfl ?_
      refine jr.iw (j_w v) (j_w_eq _) ?_
      have b9 : -2147483648 ≤ j_w v ∧ j_w v ≤ 2147483647 := jb_any _
      generalize j_w v = v9 at b9 ⊢
      refine jr.i2b rfl ?_
      have b10 : -2147483648 ≤ j_b v9 ∧ j_b v9 ≤ 2147483647 := jb_any _
      generalize j_b v9 = v10 at b10 ⊢
      refine jr.i2l rfl (by omega) ?_
      refine jr.goto rfl rfl ?_
      refine jr.last (i := ((40 * k) + i)) (x := v10) rfl (by decide) rfl (by decide) (by omega) (by omega) ?_
      exact jr.vreturn rfl rfl (q _ (RI.u hI_M1 (a := 676) (i := ((40 * k) + i)) (by rw [xri_row rfl rfl]; show (-9223372036854775808 : Int) ≤ _ ∧ _ ≤ (9223372036854775807 : Int); omega)) (RH.o hH_M1 (by decide) (by decide) (by decide)) (RF.o hS_M1 (by decide) (by decide))  (fun a i f598 f676 => ((ju_c _ _ f676).trans ((w1_1 a i f598).trans rfl))) (fun i g135 => ((ju_c _ _ (by decide)).trans ((w1_2 i g135).trans rfl))))
  · have sx12 : (1 : Int) ≤ v2 := by omega
    exact jr.vreturn rfl rfl (q _ hI_M1 hH_M1 hS_M1  (fun a i f598 f676 => ((w1_1 a i f598).trans rfl)) (fun i g135 => ((w1_2 i g135).trans rfl)))
theorem r_layHead_L14 {A : Nat → Option (Nat × (Nat → Int32))} {Q : Option Value → jm → Prop} {M0 : jm} (q : ∀ (M' : jm), RI M' → RH M' → RF M' → (∀ (a : Nat) (i : Int), a ≠ 677 → a ≠ 678 → M' a i = M0 a i) → Q none M') : ∀ (nM : Nat) (M : jm) (i : Int) (f : Int) (t : Int), RI M → RH M → RF M → (∀ (a : Nat) (i : Int), a ≠ 677 → a ≠ 678 → M a i = M0 a i) → 0 ≤ i ∧ i ≤ 11 → 0 ≤ f ∧ f ≤ 319 → 0 ≤ t ∧ t ≤ 319 → 11 - i ≤ nM → jr A 0 xm_398 14 [(3, .int (Int32.ofInt (i))), (2, .int (Int32.ofInt (f))), (1, .int (Int32.ofInt (t))), (0, .ref (598))] [] M Q := by
  intro nM
  induction nM using Nat.strongRecOn with
  | ind nM ih =>
    intro M i f t hI_M hH_M hS_M hF_M h_i h_f h_t hm
    refine jr.iload_n rfl rfl ?_
    refine jr.bipush rfl (by decide) ?_
    refine jr.icmp_ge rfl rfl (by omega) (by omega) (fun h17 => ?_) (fun h17 => ?_)
    · exact jr.vreturn rfl rfl (q _ hI_M hH_M hS_M  (fun a i f677 f678 => (hF_M a i f677 f678)))
    · refine jr.aload_n rfl rfl ?_
      refine jr.getf (i := 121) (v := .ref 678) rfl rfl (by decide) rfl (by decide) rfl rfl rfl rfl ?_
      refine jr.bipush rfl (by decide) ?_
      refine jr.iload_n rfl rfl ?_
      refine jr.imul rfl ?_
      refine jr.iload_n rfl rfl ?_
      refine jr.iadd rfl ?_
      refine jr.aload_n rfl rfl ?_
      refine jr.getf (i := 121) (v := .ref 678) rfl rfl (by decide) rfl (by decide) rfl rfl rfl rfl ?_
      refine jr.bipush rfl (by decide) ?_
      refine jr.iload_n rfl rfl ?_
      refine jr.imul rfl ?_
      refine jr.iload_n rfl rfl ?_
      refine jr.iadd rfl ?_
      obtain ⟨v1, e1⟩ : ∃ z, M 678 ((11 * f) + i) = z := ⟨_, rfl⟩
      have b1 : (-9223372036854775808) ≤ v1 ∧ v1 ≤ 9223372036854775807 := by rw [← e1]; exact (by have q := hI_M 678 ((11 * f) + i) (by decide); rw [xri_row rfl rfl] at q; exact q)
      refine jr.lald (i := ((11 * f) + i)) (x := v1) rfl (by decide) rfl (by decide) (by omega) (by omega) e1 ?_
      refine jr.last (i := ((11 * t) + i)) (x := v1) rfl (by decide) rfl (by decide) (by omega) (by omega) ?_
      refine jr.iinc rfl rfl (by decide) rfl ?_
      refine jr.goto rfl rfl ?_
      refine jr.pick [0, 1, 2, 3] rfl rfl ?_
      exact ih (nM - 1) (by omega) (ju M 678 ((11 * t) + i) v1) (i + 1) f t (RI.u hI_M (a := 678) (i := ((11 * t) + i)) (by rw [xri_row rfl rfl]; show (-9223372036854775808 : Int) ≤ _ ∧ _ ≤ (9223372036854775807 : Int); omega)) (RH.o hH_M (by decide) (by decide) (by decide)) (RF.o hS_M (by decide) (by decide))  (fun a i f677 f678 => ((ju_c _ _ f678).trans (hF_M a i f677 f678))) (by omega) (by omega) (by omega)  (by omega)
theorem r_layHead {A : Nat → Option (Nat × (Nat → Int32))} {Q : Option Value → jm → Prop} {M : jm} (hI_M : RI M) (hH_M : RH M) (hS_M : RF M) {t : Int} (h_t : 0 ≤ t ∧ t ≤ 319) {f : Int} (h_f : 0 ≤ f ∧ f ≤ 319) (q : ∀ (M' : jm), RI M' → RH M' → RF M' → (∀ (a : Nat) (i : Int), a ≠ 677 → a ≠ 678 → M' a i = M a i) → Q none M') : jc A 1 398 [.ref (598), .int (Int32.ofInt (t)), .int (Int32.ofInt (f))] M Q := by
  refine jc_of (m := xm_398) rfl (Nat.le_of_ble_eq_true rfl) rfl ?_
  refine jr.aload_n rfl rfl ?_
  refine jr.getf (i := 120) (v := .ref 677) rfl rfl (by decide) rfl (by decide) rfl rfl rfl rfl ?_
  refine jr.iload_n rfl rfl ?_
  refine jr.aload_n rfl rfl ?_
  refine jr.getf (i := 120) (v := .ref 677) rfl rfl (by decide) rfl (by decide) rfl rfl rfl rfl ?_
  refine jr.iload_n rfl rfl ?_
  obtain ⟨v1, e1⟩ : ∃ z, M 677 f = z := ⟨_, rfl⟩
  have b1 : (-1) ≤ v1 ∧ v1 ≤ 11 := by rw [← e1]; exact (by have q := hI_M 677 f (by decide); rw [xri_row rfl rfl] at q; exact q)
  refine jr.iald (i := f) (x := v1) rfl (by decide) rfl (by decide) (by omega) (by omega) e1 ?_
  refine jr.iast (i := t) (x := v1) rfl (by decide) rfl (by decide) (by omega) (by omega) ?_
  refine jr.iconst rfl ?_
  refine jr.istore_n rfl (by decide) rfl ?_
  refine jr.pick [0, 3, 2, 1] rfl rfl ?_
  exact r_layHead_L14 q 11 (ju M 677 t v1) 0 f t (RI.u hI_M (a := 677) (i := t) (by rw [xri_row rfl rfl]; show (-1 : Int) ≤ _ ∧ _ ≤ (11 : Int); omega)) (RH.o hH_M (by decide) (by decide) (by decide)) (RF.o hS_M (by decide) (by decide))  (fun a i f677 f678 => ((ju_c _ _ f677).trans rfl)) (by omega) (by omega) (by omega)  (by omega)
