theorem r_bySign {A : Nat → Option (Nat × (Nat → Int32))} {Q : Option Value → jm → Prop} {M : jm} (hI_M : RI M) (hH_M : RH M) (hS_M : RF M) {s : Int} (h_s : 0 ≤ s ∧ s ≤ 300) (p0 : 2 ≤ M 598 131 ∧ M 598 131 ≤ 250) (q : ∀ (M' : jm), RI M' → RH M' → RF M' → M' 598 131 = M 598 131 - 1 → (∀ (a : Nat) (i : Int), a ≠ 598 → a ≠ 686 → M' a i = M a i) → (∀ (i : Int), i ≠ 131 → i ≠ 135 → M' 598 i = M 598 i) → Q none M') : jc A 1 382 [.ref (598), .int (Int32.ofInt (s))] M Q := by
  refine jc_of (m := xm_382) rfl (Nat.le_of_ble_eq_true rfl) rfl ?_
  refine jr.aload_n rfl rfl ?_
  refine jr.dup rfl rfl ?_
  obtain ⟨v1, e1⟩ : ∃ z, M 598 131 = z := ⟨_, rfl⟩
  have b1 : 0 ≤ v1 ∧ v1 ≤ 400 := by rw [← e1]; exact hI_M 598 131 (by decide)
  refine jr.getf (i := 131) (x := v1) (v := .int (Int32.ofInt (v1))) rfl rfl (by decide) rfl (by decide) rfl rfl e1 rfl ?_
  refine jr.iconst rfl ?_
  refine jr.isub rfl ?_
  refine jr.putf (i := 131) (x := (v1 - 1)) rfl rfl (by decide) rfl (by decide) rfl rfl rfl rfl rfl ?_
  refine jr.aload_n rfl rfl ?_
  refine jr.getf (i := 130) (v := .ref 686) rfl rfl (by decide) rfl (by decide) rfl rfl rfl rfl ?_
  refine jr.aload_n rfl rfl ?_
  refine jr.getf (i := 131) (x := (v1 - 1)) (v := .int (Int32.ofInt (v1 - 1))) rfl rfl (by decide) rfl (by decide) rfl rfl (ju_same _ _ _ _) rfl ?_
  obtain ⟨v2, e2⟩ : ∃ z, M 686 (v1 - 1) = z := ⟨_, rfl⟩
  have b2 : (-9223372036854775808) ≤ v2 ∧ v2 ≤ 9223372036854775807 := by rw [← e2]; exact (by have q := hI_M 686 (v1 - 1) (by decide); rw [xri_row rfl rfl] at q; exact q)
  refine jr.lald (i := (v1 - 1)) (x := v2) rfl (by decide) rfl (by decide) (by omega) (by omega) ((ju_c _ _ (by decide)).trans e2) ?_
  refine jr.lstore_n rfl (by decide) rfl ?_
  refine jr.aload_n rfl rfl ?_
  refine jr.getf (i := 130) (v := .ref 686) rfl rfl (by decide) rfl (by decide) rfl rfl rfl rfl ?_
  refine jr.aload_n rfl rfl ?_
  refine jr.getf (i := 131) (x := (v1 - 1)) (v := .int (Int32.ofInt (v1 - 1))) rfl rfl (by decide) rfl (by decide) rfl rfl (ju_same _ _ _ _) rfl ?_
  refine jr.iconst rfl ?_
  refine jr.isub rfl ?_
  obtain ⟨v3, e3⟩ : ∃ z, M 686 ((v1 - 1) - 1) = z := ⟨_, rfl⟩
  have b3 : (-9223372036854775808) ≤ v3 ∧ v3 ≤ 9223372036854775807 := by rw [← e3]; exact (by have q := hI_M 686 ((v1 - 1) - 1) (by decide); rw [xri_row rfl rfl] at q; exact q)
  refine jr.lald (i := ((v1 - 1) - 1)) (x := v3) rfl (by decide) rfl (by decide) (by omega) (by omega) ((ju_c _ _ (by decide)).trans e3) ?_
  refine jr.lstore rfl (by decide) rfl ?_
  refine jr.iload_n rfl rfl ?_
  refine jr.bipush rfl (by decide) ?_
  refine jr.icmp_eq rfl rfl (by omega) (by omega) (fun h36 => ?_) (fun h36 => ?_)
  · refine jr.lload_n rfl rfl ?_
    refine jr.lconst (x := 0) rfl (by decide) ?_
    refine jr.lcmp_ne rfl rfl rfl (by omega) (by omega) (fun h47 => ?_) (fun h47 => ?_)
    · refine jr.iload_n rfl rfl ?_
      rcases (show s = 47 by omega) with h59
      · refine jr.tsw_k 47 rfl h59 rfl ?_
        refine jr.lload_n rfl rfl ?_
        refine jr.ldc2 (x := (-1)) rfl rfl (by decide) ?_
        refine jr.lcmp_ne rfl rfl rfl (by omega) (by omega) (fun h203 => ?_) (fun h203 => ?_)
        · refine jr.lload rfl rfl ?_
          refine jr.lload_n rfl rfl ?_
          refine jr.ldiv rfl (jl_nz (by omega)) ?_
          have b4 : -9223372036854775808 ≤ jl_div v3 v2 ∧ jl_div v3 v2 ≤ 9223372036854775807 := jbl_any _
          generalize jl_div v3 v2 = v4 at b4 ⊢
          refine jr.lstore rfl (by decide) rfl ?_
          refine jr.goto rfl rfl ?_
          refine jr.pick [0, 2] rfl rfl ?_
          exact r_bySign_L291 q (ju M 598 131 (v1 - 1)) v4 (RI.u hI_M (a := 598) (i := 131) (show (0 : Int) ≤ _ ∧ _ ≤ (400 : Int) from by omega)) (RH.o hH_M (by decide) (by decide) (by decide)) (RF.o hS_M (by decide) (by decide))  (fun a i f598 f686 => ((ju_c _ _ f598).trans rfl)) (fun i g131 g135 => ((ju_i _ _ g131).trans rfl)) (by omega) (by rw [(ju_same _ _ _ _)] <;> omega)
        · refine jr.lload rfl rfl ?_
          refine jr.lneg rfl ?_
          refine jr.lw (jl_w (-v3)) (jl_w_eq _) ?_
          have b5 : -9223372036854775808 ≤ jl_w (-v3) ∧ jl_w (-v3) ≤ 9223372036854775807 := jbl_any _
          generalize jl_w (-v3) = v5 at b5 ⊢
          refine jr.goto rfl rfl ?_
          refine jr.lstore rfl (by decide) rfl ?_
          refine jr.goto rfl rfl ?_
          refine jr.pick [0, 2] rfl rfl ?_
          exact r_bySign_L291 q (ju M 598 131 (v1 - 1)) v5 (RI.u hI_M (a := 598) (i := 131) (show (0 : Int) ≤ _ ∧ _ ≤ (400 : Int) from by omega)) (RH.o hH_M (by decide) (by decide) (by decide)) (RF.o hS_M (by decide) (by decide))  (fun a i f598 f686 => ((ju_c _ _ f598).trans rfl)) (fun i g131 g135 => ((ju_i _ _ g131).trans rfl)) (by omega) (by rw [(ju_same _ _ _ _)] <;> omega)
    · refine jr.aload_n rfl rfl ?_
      refine jr.bipush rfl (by decide) ?_
      refine jr.putf (i := 135) (x := 6) rfl rfl (by decide) rfl (by decide) rfl rfl rfl rfl rfl ?_
      have y6 : (ju (ju M 598 131 (v1 - 1)) 598 135 6) 598 131 = v1 - 1 := ((ju_i _ _ (by decide)).trans (ju_same _ _ _ _))
      exact jr.vreturn rfl rfl (q _ (RI.u (RI.u hI_M (a := 598) (i := 131) (show (0 : Int) ≤ _ ∧ _ ≤ (400 : Int) from by omega)) (a := 598) (i := 135) (show (0 : Int) ≤ _ ∧ _ ≤ (8 : Int) from by omega)) (RH.o (RH.o hH_M (by decide) (by decide) (by decide)) (by decide) (by decide) (by decide)) (RF.o (RF.o hS_M (by decide) (by decide)) (by decide) (by decide))  (by omega) (fun a i f598 f686 => ((ju_c _ _ f598).trans ((ju_c _ _ f598).trans rfl))) (fun i g131 g135 => ((ju_i _ _ g135).trans ((ju_i _ _ g131).trans rfl))))
  · refine jr.iload_n rfl rfl ?_
    refine jr.bipush rfl (by decide) ?_
    refine jr.icmp_ne rfl rfl (by omega) (by omega) (fun h42 => ?_) (fun h42 => ?_)
    · refine jr.iload_n rfl rfl ?_
      rcases (show s = 37 ∨ s = 38 ∨ s = 39 ∨ s = 40 ∨ s = 41 ∨ s = 42 ∨ s = 43 ∨ s = 44 ∨ s = 45 ∨ s = 46 ∨ s = 47 ∨ s = 48 ∨ s = 49 ∨ s = 50 ∨ s = 51 ∨ s = 52 ∨ s = 53 ∨ s = 54 ∨ s = 55 ∨ s = 56 ∨ s = 57 ∨ s = 58 ∨ s = 59 ∨ s = 60 ∨ s = 61 ∨ (s ≠ 37 ∧ s ≠ 38 ∧ s ≠ 39 ∧ s ≠ 40 ∧ s ≠ 41 ∧ s ≠ 42 ∧ s ≠ 43 ∧ s ≠ 44 ∧ s ≠ 45 ∧ s ≠ 46 ∧ s ≠ 47 ∧ s ≠ 48 ∧ s ≠ 49 ∧ s ≠ 50 ∧ s ≠ 51 ∧ s ≠ 52 ∧ s ≠ 53 ∧ s ≠ 54 ∧ s ≠ 55 ∧ s ≠ 56 ∧ s ≠ 57 ∧ s ≠ 58 ∧ s ≠ 59 ∧ s ≠ 60 ∧ s ≠ 61) by omega) with h59 | h59 | h59 | h59 | h59 | h59 | h59 | h59 | h59 | h59 | h59 | h59 | h59 | h59 | h59 | h59 | h59 | h59 | h59 | h59 | h59 | h59 | h59 | h59 | h59 | h59
      · refine jr.tsw_k 37 rfl h59 rfl ?_
        refine jr.lload_n rfl rfl ?_
        refine jr.ldc2 (x := (-1)) rfl rfl (by decide) ?_
        refine jr.lcmp_ne rfl rfl rfl (by omega) (by omega) (fun h226 => ?_) (fun h226 => ?_)
        · refine jr.lload rfl rfl ?_
          refine jr.lload_n rfl rfl ?_
          refine jr.lrem rfl (jl_nz (by omega)) ?_
          have b7 : -9223372036854775808 ≤ jl_rem v3 v2 ∧ jl_rem v3 v2 ≤ 9223372036854775807 := jbl_any _
          generalize jl_rem v3 v2 = v7 at b7 ⊢
          refine jr.lstore rfl (by decide) rfl ?_
          refine jr.goto rfl rfl ?_
          refine jr.pick [0, 2] rfl rfl ?_
          exact r_bySign_L291 q (ju M 598 131 (v1 - 1)) v7 (RI.u hI_M (a := 598) (i := 131) (show (0 : Int) ≤ _ ∧ _ ≤ (400 : Int) from by omega)) (RH.o hH_M (by decide) (by decide) (by decide)) (RF.o hS_M (by decide) (by decide))  (fun a i f598 f686 => ((ju_c _ _ f598).trans rfl)) (fun i g131 g135 => ((ju_i _ _ g131).trans rfl)) (by omega) (by rw [(ju_same _ _ _ _)] <;> omega)
        · refine jr.lconst (x := 0) rfl (by decide) ?_
          refine jr.goto rfl rfl ?_
          refine jr.lstore rfl (by decide) rfl ?_
          refine jr.goto rfl rfl ?_
          refine jr.pick [0, 2] rfl rfl ?_
          exact r_bySign_L291 q (ju M 598 131 (v1 - 1)) 0 (RI.u hI_M (a := 598) (i := 131) (show (0 : Int) ≤ _ ∧ _ ≤ (400 : Int) from by omega)) (RH.o hH_M (by decide) (by decide) (by decide)) (RF.o hS_M (by decide) (by decide))  (fun a i f598 f686 => ((ju_c _ _ f598).trans rfl)) (fun i g131 g135 => ((ju_i _ _ g131).trans rfl)) (by omega) (by rw [(ju_same _ _ _ _)] <;> omega)
      · refine jr.tsw_k 38 rfl h59 rfl ?_
        refine jr.lload rfl rfl ?_
        refine jr.lload_n rfl rfl ?_
        refine jr.lcmp_le rfl rfl rfl (by omega) (by omega) (fun h280 => ?_) (fun h280 => ?_)
        · refine jr.lconst (x := 0) rfl (by decide) ?_
          refine jr.lstore rfl (by decide) rfl ?_
          refine jr.pick [0, 2] rfl rfl ?_
          exact r_bySign_L291 q (ju M 598 131 (v1 - 1)) 0 (RI.u hI_M (a := 598) (i := 131) (show (0 : Int) ≤ _ ∧ _ ≤ (400 : Int) from by omega)) (RH.o hH_M (by decide) (by decide) (by decide)) (RF.o hS_M (by decide) (by decide))  (fun a i f598 f686 => ((ju_c _ _ f598).trans rfl)) (fun i g131 g135 => ((ju_i _ _ g131).trans rfl)) (by omega) (by rw [(ju_same _ _ _ _)] <;> omega)
        · refine jr.lconst (x := 1) rfl (by decide) ?_
          refine jr.goto rfl rfl ?_
          refine jr.lstore rfl (by decide) rfl ?_
          refine jr.pick [0, 2] rfl rfl ?_
          exact r_bySign_L291 q (ju M 598 131 (v1 - 1)) 1 (RI.u hI_M (a := 598) (i := 131) (show (0 : Int) ≤ _ ∧ _ ≤ (400 : Int) from by omega)) (RH.o hH_M (by decide) (by decide) (by decide)) (RF.o hS_M (by decide) (by decide))  (fun a i f598 f686 => ((ju_c _ _ f598).trans rfl)) (fun i g131 g135 => ((ju_i _ _ g131).trans rfl)) (by omega) (by rw [(ju_same _ _ _ _)] <;> omega)
      · refine jr.tsw_k 39 rfl h59 rfl ?_
        refine jr.lload rfl rfl ?_
        refine jr.lload_n rfl rfl ?_
        refine jr.lcmp_le rfl rfl rfl (by omega) (by omega) (fun h280 => ?_) (fun h280 => ?_)
        · refine jr.lconst (x := 0) rfl (by decide) ?_
          refine jr.lstore rfl (by decide) rfl ?_
          refine jr.pick [0, 2] rfl rfl ?_
          exact r_bySign_L291 q (ju M 598 131 (v1 - 1)) 0 (RI.u hI_M (a := 598) (i := 131) (show (0 : Int) ≤ _ ∧ _ ≤ (400 : Int) from by omega)) (RH.o hH_M (by decide) (by decide) (by decide)) (RF.o hS_M (by decide) (by decide))  (fun a i f598 f686 => ((ju_c _ _ f598).trans rfl)) (fun i g131 g135 => ((ju_i _ _ g131).trans rfl)) (by omega) (by rw [(ju_same _ _ _ _)] <;> omega)
        · refine jr.lconst (x := 1) rfl (by decide) ?_
          refine jr.goto rfl rfl ?_
          refine jr.lstore rfl (by decide) rfl ?_
          refine jr.pick [0, 2] rfl rfl ?_
          exact r_bySign_L291 q (ju M 598 131 (v1 - 1)) 1 (RI.u hI_M (a := 598) (i := 131) (show (0 : Int) ≤ _ ∧ _ ≤ (400 : Int) from by omega)) (RH.o hH_M (by decide) (by decide) (by decide)) (RF.o hS_M (by decide) (by decide))  (fun a i f598 f686 => ((ju_c _ _ f598).trans rfl)) (fun i g131 g135 => ((ju_i _ _ g131).trans rfl)) (by omega) (by rw [(ju_same _ _ _ _)] <;> omega)
      · refine jr.tsw_k 40 rfl h59 rfl ?_
        refine jr.lload rfl rfl ?_
        refine jr.lload_n rfl rfl ?_
        refine jr.lcmp_le rfl rfl rfl (by omega) (by omega) (fun h280 => ?_) (fun h280 => ?_)
        · refine jr.lconst (x := 0) rfl (by decide) ?_
          refine jr.lstore rfl (by decide) rfl ?_
          refine jr.pick [0, 2] rfl rfl ?_
          exact r_bySign_L291 q (ju M 598 131 (v1 - 1)) 0 (RI.u hI_M (a := 598) (i := 131) (show (0 : Int) ≤ _ ∧ _ ≤ (400 : Int) from by omega)) (RH.o hH_M (by decide) (by decide) (by decide)) (RF.o hS_M (by decide) (by decide))  (fun a i f598 f686 => ((ju_c _ _ f598).trans rfl)) (fun i g131 g135 => ((ju_i _ _ g131).trans rfl)) (by omega) (by rw [(ju_same _ _ _ _)] <;> omega)
        · refine jr.lconst (x := 1) rfl (by decide) ?_
          refine jr.goto rfl rfl ?_
          refine jr.lstore rfl (by decide) rfl ?_
          refine jr.pick [0, 2] rfl rfl ?_
          exact r_bySign_L291 q (ju M 598 131 (v1 - 1)) 1 (RI.u hI_M (a := 598) (i := 131) (show (0 : Int) ≤ _ ∧ _ ≤ (400 : Int) from by omega)) (RH.o hH_M (by decide) (by decide) (by decide)) (RF.o hS_M (by decide) (by decide))  (fun a i f598 f686 => ((ju_c _ _ f598).trans rfl)) (fun i g131 g135 => ((ju_i _ _ g131).trans rfl)) (by omega) (by rw [(ju_same _ _ _ _)] <;> omega)
      · refine jr.tsw_k 41 rfl h59 rfl ?_
        refine jr.lload rfl rfl ?_
        refine jr.lload_n rfl rfl ?_
        refine jr.lcmp_le rfl rfl rfl (by omega) (by omega) (fun h280 => ?_) (fun h280 => ?_)
        · refine jr.lconst (x := 0) rfl (by decide) ?_
          refine jr.lstore rfl (by decide) rfl ?_
          refine jr.pick [0, 2] rfl rfl ?_
          exact r_bySign_L291 q (ju M 598 131 (v1 - 1)) 0 (RI.u hI_M (a := 598) (i := 131) (show (0 : Int) ≤ _ ∧ _ ≤ (400 : Int) from by omega)) (RH.o hH_M (by decide) (by decide) (by decide)) (RF.o hS_M (by decide) (by decide))  (fun a i f598 f686 => ((ju_c _ _ f598).trans rfl)) (fun i g131 g135 => ((ju_i _ _ g131).trans rfl)) (by omega) (by rw [(ju_same _ _ _ _)] <;> omega)
        · refine jr.lconst (x := 1) rfl (by decide) ?_
          refine jr.goto rfl rfl ?_
          refine jr.lstore rfl (by decide) rfl ?_
          refine jr.pick [0, 2] rfl rfl ?_
          exact r_bySign_L291 q (ju M 598 131 (v1 - 1)) 1 (RI.u hI_M (a := 598) (i := 131) (show (0 : Int) ≤ _ ∧ _ ≤ (400 : Int) from by omega)) (RH.o hH_M (by decide) (by decide) (by decide)) (RF.o hS_M (by decide) (by decide))  (fun a i f598 f686 => ((ju_c _ _ f598).trans rfl)) (fun i g131 g135 => ((ju_i _ _ g131).trans rfl)) (by omega) (by rw [(ju_same _ _ _ _)] <;> omega)
      · refine jr.tsw_k 42 rfl h59 rfl ?_
        refine jr.lload rfl rfl ?_
        refine jr.lload_n rfl rfl ?_
        refine jr.lmul rfl ?_
        refine jr.lw (jl_w (v3 * v2)) (jl_w_eq _) ?_
        have b8 : -9223372036854775808 ≤ jl_w (v3 * v2) ∧ jl_w (v3 * v2) ≤ 9223372036854775807 := jbl_any _
        generalize jl_w (v3 * v2) = v8 at b8 ⊢
        refine jr.lstore rfl (by decide) rfl ?_
        refine jr.goto rfl rfl ?_
        refine jr.pick [0, 2] rfl rfl ?_
        exact r_bySign_L291 q (ju M 598 131 (v1 - 1)) v8 (RI.u hI_M (a := 598) (i := 131) (show (0 : Int) ≤ _ ∧ _ ≤ (400 : Int) from by omega)) (RH.o hH_M (by decide) (by decide) (by decide)) (RF.o hS_M (by decide) (by decide))  (fun a i f598 f686 => ((ju_c _ _ f598).trans rfl)) (fun i g131 g135 => ((ju_i _ _ g131).trans rfl)) (by omega) (by rw [(ju_same _ _ _ _)] <;> omega)
      · refine jr.tsw_k 43 rfl h59 rfl ?_
        refine jr.lload rfl rfl ?_
        refine jr.lload_n rfl rfl ?_
        refine jr.ladd rfl ?_
        refine jr.lw (jl_w (v3 + v2)) (jl_w_eq _) ?_
        have b9 : -9223372036854775808 ≤ jl_w (v3 + v2) ∧ jl_w (v3 + v2) ≤ 9223372036854775807 := jbl_any _
        generalize jl_w (v3 + v2) = v9 at b9 ⊢
        refine jr.lstore rfl (by decide) rfl ?_
        refine jr.goto rfl rfl ?_
        refine jr.pick [0, 2] rfl rfl ?_
        exact r_bySign_L291 q (ju M 598 131 (v1 - 1)) v9 (RI.u hI_M (a := 598) (i := 131) (show (0 : Int) ≤ _ ∧ _ ≤ (400 : Int) from by omega)) (RH.o hH_M (by decide) (by decide) (by decide)) (RF.o hS_M (by decide) (by decide))  (fun a i f598 f686 => ((ju_c _ _ f598).trans rfl)) (fun i g131 g135 => ((ju_i _ _ g131).trans rfl)) (by omega) (by rw [(ju_same _ _ _ _)] <;> omega)
      · refine jr.tsw_k 44 rfl h59 rfl ?_
        refine jr.lload rfl rfl ?_
        refine jr.lload_n rfl rfl ?_
        refine jr.lcmp_le rfl rfl rfl (by omega) (by omega) (fun h280 => ?_) (fun h280 => ?_)
        · refine jr.lconst (x := 0) rfl (by decide) ?_
          refine jr.lstore rfl (by decide) rfl ?_
          refine jr.pick [0, 2] rfl rfl ?_
          exact r_bySign_L291 q (ju M 598 131 (v1 - 1)) 0 (RI.u hI_M (a := 598) (i := 131) (show (0 : Int) ≤ _ ∧ _ ≤ (400 : Int) from by omega)) (RH.o hH_M (by decide) (by decide) (by decide)) (RF.o hS_M (by decide) (by decide))  (fun a i f598 f686 => ((ju_c _ _ f598).trans rfl)) (fun i g131 g135 => ((ju_i _ _ g131).trans rfl)) (by omega) (by rw [(ju_same _ _ _ _)] <;> omega)
        · refine jr.lconst (x := 1) rfl (by decide) ?_
          refine jr.goto rfl rfl ?_
          refine jr.lstore rfl (by decide) rfl ?_
          refine jr.pick [0, 2] rfl rfl ?_
          exact r_bySign_L291 q (ju M 598 131 (v1 - 1)) 1 (RI.u hI_M (a := 598) (i := 131) (show (0 : Int) ≤ _ ∧ _ ≤ (400 : Int) from by omega)) (RH.o hH_M (by decide) (by decide) (by decide)) (RF.o hS_M (by decide) (by decide))  (fun a i f598 f686 => ((ju_c _ _ f598).trans rfl)) (fun i g131 g135 => ((ju_i _ _ g131).trans rfl)) (by omega) (by rw [(ju_same _ _ _ _)] <;> omega)
      · refine jr.tsw_k 45 rfl h59 rfl ?_
        refine jr.lload rfl rfl ?_
        refine jr.lload_n rfl rfl ?_
        refine jr.lsub rfl ?_
        refine jr.lw (jl_w (v3 - v2)) (jl_w_eq _) ?_
        have b10 : -9223372036854775808 ≤ jl_w (v3 - v2) ∧ jl_w (v3 - v2) ≤ 9223372036854775807 := jbl_any _
        generalize jl_w (v3 - v2) = v10 at b10 ⊢
        refine jr.lstore rfl (by decide) rfl ?_
        refine jr.goto rfl rfl ?_
        refine jr.pick [0, 2] rfl rfl ?_
        exact r_bySign_L291 q (ju M 598 131 (v1 - 1)) v10 (RI.u hI_M (a := 598) (i := 131) (show (0 : Int) ≤ _ ∧ _ ≤ (400 : Int) from by omega)) (RH.o hH_M (by decide) (by decide) (by decide)) (RF.o hS_M (by decide) (by decide))  (fun a i f598 f686 => ((ju_c _ _ f598).trans rfl)) (fun i g131 g135 => ((ju_i _ _ g131).trans rfl)) (by omega) (by rw [(ju_same _ _ _ _)] <;> omega)
      · refine jr.tsw_k 46 rfl h59 rfl ?_
        refine jr.lload rfl rfl ?_
        refine jr.lload_n rfl rfl ?_
        refine jr.lcmp_le rfl rfl rfl (by omega) (by omega) (fun h280 => ?_) (fun h280 => ?_)
        · refine jr.lconst (x := 0) rfl (by decide) ?_
          refine jr.lstore rfl (by decide) rfl ?_
          refine jr.pick [0, 2] rfl rfl ?_
          exact r_bySign_L291 q (ju M 598 131 (v1 - 1)) 0 (RI.u hI_M (a := 598) (i := 131) (show (0 : Int) ≤ _ ∧ _ ≤ (400 : Int) from by omega)) (RH.o hH_M (by decide) (by decide) (by decide)) (RF.o hS_M (by decide) (by decide))  (fun a i f598 f686 => ((ju_c _ _ f598).trans rfl)) (fun i g131 g135 => ((ju_i _ _ g131).trans rfl)) (by omega) (by rw [(ju_same _ _ _ _)] <;> omega)
        · refine jr.lconst (x := 1) rfl (by decide) ?_
          refine jr.goto rfl rfl ?_
          refine jr.lstore rfl (by decide) rfl ?_
          refine jr.pick [0, 2] rfl rfl ?_
          exact r_bySign_L291 q (ju M 598 131 (v1 - 1)) 1 (RI.u hI_M (a := 598) (i := 131) (show (0 : Int) ≤ _ ∧ _ ≤ (400 : Int) from by omega)) (RH.o hH_M (by decide) (by decide) (by decide)) (RF.o hS_M (by decide) (by decide))  (fun a i f598 f686 => ((ju_c _ _ f598).trans rfl)) (fun i g131 g135 => ((ju_i _ _ g131).trans rfl)) (by omega) (by rw [(ju_same _ _ _ _)] <;> omega)
      · refine jr.tsw_k 47 rfl h59 rfl ?_
        refine jr.lload_n rfl rfl ?_
        refine jr.ldc2 (x := (-1)) rfl rfl (by decide) ?_
        refine jr.lcmp_ne rfl rfl rfl (by omega) (by omega) (fun h203 => ?_) (fun h203 => ?_)
        · refine jr.lload rfl rfl ?_
          refine jr.lload_n rfl rfl ?_
          refine jr.ldiv rfl (jl_nz (by omega)) ?_
          have b11 : -9223372036854775808 ≤ jl_div v3 v2 ∧ jl_div v3 v2 ≤ 9223372036854775807 := jbl_any _
          generalize jl_div v3 v2 = v11 at b11 ⊢
          refine jr.lstore rfl (by decide) rfl ?_
          refine jr.goto rfl rfl ?_
          refine jr.pick [0, 2] rfl rfl ?_
          exact r_bySign_L291 q (ju M 598 131 (v1 - 1)) v11 (RI.u hI_M (a := 598) (i := 131) (show (0 : Int) ≤ _ ∧ _ ≤ (400 : Int) from by omega)) (RH.o hH_M (by decide) (by decide) (by decide)) (RF.o hS_M (by decide) (by decide))  (fun a i f598 f686 => ((ju_c _ _ f598).trans rfl)) (fun i g131 g135 => ((ju_i _ _ g131).trans rfl)) (by omega) (by rw [(ju_same _ _ _ _)] <;> omega)
        · refine jr.lload rfl rfl ?_
          refine jr.lneg rfl ?_
          refine jr.lw (jl_w (-v3)) (jl_w_eq _) ?_
          have b12 : -9223372036854775808 ≤ jl_w (-v3) ∧ jl_w (-v3) ≤ 9223372036854775807 := jbl_any _
          generalize jl_w (-v3) = v12 at b12 ⊢
          refine jr.goto rfl rfl ?_
          refine jr.lstore rfl (by decide) rfl ?_
          refine jr.goto rfl rfl ?_
          refine jr.pick [0, 2] rfl rfl ?_
          exact r_bySign_L291 q (ju M 598 131 (v1 - 1)) v12 (RI.u hI_M (a := 598) (i := 131) (show (0 : Int) ≤ _ ∧ _ ≤ (400 : Int) from by omega)) (RH.o hH_M (by decide) (by decide) (by decide)) (RF.o hS_M (by decide) (by decide))  (fun a i f598 f686 => ((ju_c _ _ f598).trans rfl)) (fun i g131 g135 => ((ju_i _ _ g131).trans rfl)) (by omega) (by rw [(ju_same _ _ _ _)] <;> omega)
      · refine jr.tsw_k 48 rfl h59 rfl ?_
        refine jr.lload rfl rfl ?_
        refine jr.lload_n rfl rfl ?_
        refine jr.lcmp_le rfl rfl rfl (by omega) (by omega) (fun h280 => ?_) (fun h280 => ?_)
        · refine jr.lconst (x := 0) rfl (by decide) ?_
          refine jr.lstore rfl (by decide) rfl ?_
          refine jr.pick [0, 2] rfl rfl ?_
          exact r_bySign_L291 q (ju M 598 131 (v1 - 1)) 0 (RI.u hI_M (a := 598) (i := 131) (show (0 : Int) ≤ _ ∧ _ ≤ (400 : Int) from by omega)) (RH.o hH_M (by decide) (by decide) (by decide)) (RF.o hS_M (by decide) (by decide))  (fun a i f598 f686 => ((ju_c _ _ f598).trans rfl)) (fun i g131 g135 => ((ju_i _ _ g131).trans rfl)) (by omega) (by rw [(ju_same _ _ _ _)] <;> omega)
        · refine jr.lconst (x := 1) rfl (by decide) ?_
          refine jr.goto rfl rfl ?_
          refine jr.lstore rfl (by decide) rfl ?_
          refine jr.pick [0, 2] rfl rfl ?_
          exact r_bySign_L291 q (ju M 598 131 (v1 - 1)) 1 (RI.u hI_M (a := 598) (i := 131) (show (0 : Int) ≤ _ ∧ _ ≤ (400 : Int) from by omega)) (RH.o hH_M (by decide) (by decide) (by decide)) (RF.o hS_M (by decide) (by decide))  (fun a i f598 f686 => ((ju_c _ _ f598).trans rfl)) (fun i g131 g135 => ((ju_i _ _ g131).trans rfl)) (by omega) (by rw [(ju_same _ _ _ _)] <;> omega)
      · refine jr.tsw_k 49 rfl h59 rfl ?_
        refine jr.lload rfl rfl ?_
        refine jr.lload_n rfl rfl ?_
        refine jr.lcmp_le rfl rfl rfl (by omega) (by omega) (fun h280 => ?_) (fun h280 => ?_)
        · refine jr.lconst (x := 0) rfl (by decide) ?_
          refine jr.lstore rfl (by decide) rfl ?_
          refine jr.pick [0, 2] rfl rfl ?_
          exact r_bySign_L291 q (ju M 598 131 (v1 - 1)) 0 (RI.u hI_M (a := 598) (i := 131) (show (0 : Int) ≤ _ ∧ _ ≤ (400 : Int) from by omega)) (RH.o hH_M (by decide) (by decide) (by decide)) (RF.o hS_M (by decide) (by decide))  (fun a i f598 f686 => ((ju_c _ _ f598).trans rfl)) (fun i g131 g135 => ((ju_i _ _ g131).trans rfl)) (by omega) (by rw [(ju_same _ _ _ _)] <;> omega)
        · refine jr.lconst (x := 1) rfl (by decide) ?_
          refine jr.goto rfl rfl ?_
          refine jr.lstore rfl (by decide) rfl ?_
          refine jr.pick [0, 2] rfl rfl ?_
          exact r_bySign_L291 q (ju M 598 131 (v1 - 1)) 1 (RI.u hI_M (a := 598) (i := 131) (show (0 : Int) ≤ _ ∧ _ ≤ (400 : Int) from by omega)) (RH.o hH_M (by decide) (by decide) (by decide)) (RF.o hS_M (by decide) (by decide))  (fun a i f598 f686 => ((ju_c _ _ f598).trans rfl)) (fun i g131 g135 => ((ju_i _ _ g131).trans rfl)) (by omega) (by rw [(ju_same _ _ _ _)] <;> omega)
      · refine jr.tsw_k 50 rfl h59 rfl ?_
        refine jr.lload rfl rfl ?_
        refine jr.lload_n rfl rfl ?_
        refine jr.lcmp_le rfl rfl rfl (by omega) (by omega) (fun h280 => ?_) (fun h280 => ?_)
        · refine jr.lconst (x := 0) rfl (by decide) ?_
          refine jr.lstore rfl (by decide) rfl ?_
          refine jr.pick [0, 2] rfl rfl ?_
          exact r_bySign_L291 q (ju M 598 131 (v1 - 1)) 0 (RI.u hI_M (a := 598) (i := 131) (show (0 : Int) ≤ _ ∧ _ ≤ (400 : Int) from by omega)) (RH.o hH_M (by decide) (by decide) (by decide)) (RF.o hS_M (by decide) (by decide))  (fun a i f598 f686 => ((ju_c _ _ f598).trans rfl)) (fun i g131 g135 => ((ju_i _ _ g131).trans rfl)) (by omega) (by rw [(ju_same _ _ _ _)] <;> omega)
        · refine jr.lconst (x := 1) rfl (by decide) ?_
          refine jr.goto rfl rfl ?_
          refine jr.lstore rfl (by decide) rfl ?_
          refine jr.pick [0, 2] rfl rfl ?_
          exact r_bySign_L291 q (ju M 598 131 (v1 - 1)) 1 (RI.u hI_M (a := 598) (i := 131) (show (0 : Int) ≤ _ ∧ _ ≤ (400 : Int) from by omega)) (RH.o hH_M (by decide) (by decide) (by decide)) (RF.o hS_M (by decide) (by decide))  (fun a i f598 f686 => ((ju_c _ _ f598).trans rfl)) (fun i g131 g135 => ((ju_i _ _ g131).trans rfl)) (by omega) (by rw [(ju_same _ _ _ _)] <;> omega)
      · refine jr.tsw_k 51 rfl h59 rfl ?_
        refine jr.lload rfl rfl ?_
        refine jr.lload_n rfl rfl ?_
        refine jr.lcmp_le rfl rfl rfl (by omega) (by omega) (fun h280 => ?_) (fun h280 => ?_)
        · refine jr.lconst (x := 0) rfl (by decide) ?_
          refine jr.lstore rfl (by decide) rfl ?_
          refine jr.pick [0, 2] rfl rfl ?_
          exact r_bySign_L291 q (ju M 598 131 (v1 - 1)) 0 (RI.u hI_M (a := 598) (i := 131) (show (0 : Int) ≤ _ ∧ _ ≤ (400 : Int) from by omega)) (RH.o hH_M (by decide) (by decide) (by decide)) (RF.o hS_M (by decide) (by decide))  (fun a i f598 f686 => ((ju_c _ _ f598).trans rfl)) (fun i g131 g135 => ((ju_i _ _ g131).trans rfl)) (by omega) (by rw [(ju_same _ _ _ _)] <;> omega)
        · refine jr.lconst (x := 1) rfl (by decide) ?_
          refine jr.goto rfl rfl ?_
          refine jr.lstore rfl (by decide) rfl ?_
          refine jr.pick [0, 2] rfl rfl ?_
          exact r_bySign_L291 q (ju M 598 131 (v1 - 1)) 1 (RI.u hI_M (a := 598) (i := 131) (show (0 : Int) ≤ _ ∧ _ ≤ (400 : Int) from by omega)) (RH.o hH_M (by decide) (by decide) (by decide)) (RF.o hS_M (by decide) (by decide))  (fun a i f598 f686 => ((ju_c _ _ f598).trans rfl)) (fun i g131 g135 => ((ju_i _ _ g131).trans rfl)) (by omega) (by rw [(ju_same _ _ _ _)] <;> omega)
      · refine jr.tsw_k 52 rfl h59 rfl ?_
        refine jr.lload rfl rfl ?_
        refine jr.lload_n rfl rfl ?_
        refine jr.lcmp_le rfl rfl rfl (by omega) (by omega) (fun h280 => ?_) (fun h280 => ?_)
        · refine jr.lconst (x := 0) rfl (by decide) ?_
          refine jr.lstore rfl (by decide) rfl ?_
          refine jr.pick [0, 2] rfl rfl ?_
          exact r_bySign_L291 q (ju M 598 131 (v1 - 1)) 0 (RI.u hI_M (a := 598) (i := 131) (show (0 : Int) ≤ _ ∧ _ ≤ (400 : Int) from by omega)) (RH.o hH_M (by decide) (by decide) (by decide)) (RF.o hS_M (by decide) (by decide))  (fun a i f598 f686 => ((ju_c _ _ f598).trans rfl)) (fun i g131 g135 => ((ju_i _ _ g131).trans rfl)) (by omega) (by rw [(ju_same _ _ _ _)] <;> omega)
        · refine jr.lconst (x := 1) rfl (by decide) ?_
          refine jr.goto rfl rfl ?_
          refine jr.lstore rfl (by decide) rfl ?_
          refine jr.pick [0, 2] rfl rfl ?_
          exact r_bySign_L291 q (ju M 598 131 (v1 - 1)) 1 (RI.u hI_M (a := 598) (i := 131) (show (0 : Int) ≤ _ ∧ _ ≤ (400 : Int) from by omega)) (RH.o hH_M (by decide) (by decide) (by decide)) (RF.o hS_M (by decide) (by decide))  (fun a i f598 f686 => ((ju_c _ _ f598).trans rfl)) (fun i g131 g135 => ((ju_i _ _ g131).trans rfl)) (by omega) (by rw [(ju_same _ _ _ _)] <;> omega)
      · refine jr.tsw_k 53 rfl h59 rfl ?_
        refine jr.lload rfl rfl ?_
        refine jr.lload_n rfl rfl ?_
        refine jr.lcmp_le rfl rfl rfl (by omega) (by omega) (fun h280 => ?_) (fun h280 => ?_)
        · refine jr.lconst (x := 0) rfl (by decide) ?_
          refine jr.lstore rfl (by decide) rfl ?_
          refine jr.pick [0, 2] rfl rfl ?_
          exact r_bySign_L291 q (ju M 598 131 (v1 - 1)) 0 (RI.u hI_M (a := 598) (i := 131) (show (0 : Int) ≤ _ ∧ _ ≤ (400 : Int) from by omega)) (RH.o hH_M (by decide) (by decide) (by decide)) (RF.o hS_M (by decide) (by decide))  (fun a i f598 f686 => ((ju_c _ _ f598).trans rfl)) (fun i g131 g135 => ((ju_i _ _ g131).trans rfl)) (by omega) (by rw [(ju_same _ _ _ _)] <;> omega)
        · refine jr.lconst (x := 1) rfl (by decide) ?_
          refine jr.goto rfl rfl ?_
          refine jr.lstore rfl (by decide) rfl ?_
          refine jr.pick [0, 2] rfl rfl ?_
          exact r_bySign_L291 q (ju M 598 131 (v1 - 1)) 1 (RI.u hI_M (a := 598) (i := 131) (show (0 : Int) ≤ _ ∧ _ ≤ (400 : Int) from by omega)) (RH.o hH_M (by decide) (by decide) (by decide)) (RF.o hS_M (by decide) (by decide))  (fun a i f598 f686 => ((ju_c _ _ f598).trans rfl)) (fun i g131 g135 => ((ju_i _ _ g131).trans rfl)) (by omega) (by rw [(ju_same _ _ _ _)] <;> omega)
      · refine jr.tsw_k 54 rfl h59 rfl ?_
        refine jr.lload rfl rfl ?_
        refine jr.lload_n rfl rfl ?_
        refine jr.lcmp_le rfl rfl rfl (by omega) (by omega) (fun h280 => ?_) (fun h280 => ?_)
        · refine jr.lconst (x := 0) rfl (by decide) ?_
          refine jr.lstore rfl (by decide) rfl ?_
          refine jr.pick [0, 2] rfl rfl ?_
          exact r_bySign_L291 q (ju M 598 131 (v1 - 1)) 0 (RI.u hI_M (a := 598) (i := 131) (show (0 : Int) ≤ _ ∧ _ ≤ (400 : Int) from by omega)) (RH.o hH_M (by decide) (by decide) (by decide)) (RF.o hS_M (by decide) (by decide))  (fun a i f598 f686 => ((ju_c _ _ f598).trans rfl)) (fun i g131 g135 => ((ju_i _ _ g131).trans rfl)) (by omega) (by rw [(ju_same _ _ _ _)] <;> omega)
        · refine jr.lconst (x := 1) rfl (by decide) ?_
          refine jr.goto rfl rfl ?_
          refine jr.lstore rfl (by decide) rfl ?_
          refine jr.pick [0, 2] rfl rfl ?_
          exact r_bySign_L291 q (ju M 598 131 (v1 - 1)) 1 (RI.u hI_M (a := 598) (i := 131) (show (0 : Int) ≤ _ ∧ _ ≤ (400 : Int) from by omega)) (RH.o hH_M (by decide) (by decide) (by decide)) (RF.o hS_M (by decide) (by decide))  (fun a i f598 f686 => ((ju_c _ _ f598).trans rfl)) (fun i g131 g135 => ((ju_i _ _ g131).trans rfl)) (by omega) (by rw [(ju_same _ _ _ _)] <;> omega)
      · refine jr.tsw_k 55 rfl h59 rfl ?_
        refine jr.lload rfl rfl ?_
        refine jr.lload_n rfl rfl ?_
        refine jr.lcmp_le rfl rfl rfl (by omega) (by omega) (fun h280 => ?_) (fun h280 => ?_)
        · refine jr.lconst (x := 0) rfl (by decide) ?_
          refine jr.lstore rfl (by decide) rfl ?_
          refine jr.pick [0, 2] rfl rfl ?_
          exact r_bySign_L291 q (ju M 598 131 (v1 - 1)) 0 (RI.u hI_M (a := 598) (i := 131) (show (0 : Int) ≤ _ ∧ _ ≤ (400 : Int) from by omega)) (RH.o hH_M (by decide) (by decide) (by decide)) (RF.o hS_M (by decide) (by decide))  (fun a i f598 f686 => ((ju_c _ _ f598).trans rfl)) (fun i g131 g135 => ((ju_i _ _ g131).trans rfl)) (by omega) (by rw [(ju_same _ _ _ _)] <;> omega)
        · refine jr.lconst (x := 1) rfl (by decide) ?_
          refine jr.goto rfl rfl ?_
          refine jr.lstore rfl (by decide) rfl ?_
          refine jr.pick [0, 2] rfl rfl ?_
          exact r_bySign_L291 q (ju M 598 131 (v1 - 1)) 1 (RI.u hI_M (a := 598) (i := 131) (show (0 : Int) ≤ _ ∧ _ ≤ (400 : Int) from by omega)) (RH.o hH_M (by decide) (by decide) (by decide)) (RF.o hS_M (by decide) (by decide))  (fun a i f598 f686 => ((ju_c _ _ f598).trans rfl)) (fun i g131 g135 => ((ju_i _ _ g131).trans rfl)) (by omega) (by rw [(ju_same _ _ _ _)] <;> omega)
      · refine jr.tsw_k 56 rfl h59 rfl ?_
        refine jr.lload rfl rfl ?_
        refine jr.lload_n rfl rfl ?_
        refine jr.lcmp_le rfl rfl rfl (by omega) (by omega) (fun h280 => ?_) (fun h280 => ?_)
        · refine jr.lconst (x := 0) rfl (by decide) ?_
          refine jr.lstore rfl (by decide) rfl ?_
          refine jr.pick [0, 2] rfl rfl ?_
          exact r_bySign_L291 q (ju M 598 131 (v1 - 1)) 0 (RI.u hI_M (a := 598) (i := 131) (show (0 : Int) ≤ _ ∧ _ ≤ (400 : Int) from by omega)) (RH.o hH_M (by decide) (by decide) (by decide)) (RF.o hS_M (by decide) (by decide))  (fun a i f598 f686 => ((ju_c _ _ f598).trans rfl)) (fun i g131 g135 => ((ju_i _ _ g131).trans rfl)) (by omega) (by rw [(ju_same _ _ _ _)] <;> omega)
        · refine jr.lconst (x := 1) rfl (by decide) ?_
          refine jr.goto rfl rfl ?_
          refine jr.lstore rfl (by decide) rfl ?_
          refine jr.pick [0, 2] rfl rfl ?_
          exact r_bySign_L291 q (ju M 598 131 (v1 - 1)) 1 (RI.u hI_M (a := 598) (i := 131) (show (0 : Int) ≤ _ ∧ _ ≤ (400 : Int) from by omega)) (RH.o hH_M (by decide) (by decide) (by decide)) (RF.o hS_M (by decide) (by decide))  (fun a i f598 f686 => ((ju_c _ _ f598).trans rfl)) (fun i g131 g135 => ((ju_i _ _ g131).trans rfl)) (by omega) (by rw [(ju_same _ _ _ _)] <;> omega)
      · refine jr.tsw_k 57 rfl h59 rfl ?_
        refine jr.lload rfl rfl ?_
        refine jr.lload_n rfl rfl ?_
        refine jr.lcmp_le rfl rfl rfl (by omega) (by omega) (fun h280 => ?_) (fun h280 => ?_)
        · refine jr.lconst (x := 0) rfl (by decide) ?_
          refine jr.lstore rfl (by decide) rfl ?_
          refine jr.pick [0, 2] rfl rfl ?_
          exact r_bySign_L291 q (ju M 598 131 (v1 - 1)) 0 (RI.u hI_M (a := 598) (i := 131) (show (0 : Int) ≤ _ ∧ _ ≤ (400 : Int) from by omega)) (RH.o hH_M (by decide) (by decide) (by decide)) (RF.o hS_M (by decide) (by decide))  (fun a i f598 f686 => ((ju_c _ _ f598).trans rfl)) (fun i g131 g135 => ((ju_i _ _ g131).trans rfl)) (by omega) (by rw [(ju_same _ _ _ _)] <;> omega)
        · refine jr.lconst (x := 1) rfl (by decide) ?_
          refine jr.goto rfl rfl ?_
          refine jr.lstore rfl (by decide) rfl ?_
          refine jr.pick [0, 2] rfl rfl ?_
          exact r_bySign_L291 q (ju M 598 131 (v1 - 1)) 1 (RI.u hI_M (a := 598) (i := 131) (show (0 : Int) ≤ _ ∧ _ ≤ (400 : Int) from by omega)) (RH.o hH_M (by decide) (by decide) (by decide)) (RF.o hS_M (by decide) (by decide))  (fun a i f598 f686 => ((ju_c _ _ f598).trans rfl)) (fun i g131 g135 => ((ju_i _ _ g131).trans rfl)) (by omega) (by rw [(ju_same _ _ _ _)] <;> omega)
      · refine jr.tsw_k 58 rfl h59 rfl ?_
        refine jr.lload rfl rfl ?_
        refine jr.lload_n rfl rfl ?_
        refine jr.lcmp_le rfl rfl rfl (by omega) (by omega) (fun h280 => ?_) (fun h280 => ?_)
        · refine jr.lconst (x := 0) rfl (by decide) ?_
          refine jr.lstore rfl (by decide) rfl ?_
          refine jr.pick [0, 2] rfl rfl ?_
          exact r_bySign_L291 q (ju M 598 131 (v1 - 1)) 0 (RI.u hI_M (a := 598) (i := 131) (show (0 : Int) ≤ _ ∧ _ ≤ (400 : Int) from by omega)) (RH.o hH_M (by decide) (by decide) (by decide)) (RF.o hS_M (by decide) (by decide))  (fun a i f598 f686 => ((ju_c _ _ f598).trans rfl)) (fun i g131 g135 => ((ju_i _ _ g131).trans rfl)) (by omega) (by rw [(ju_same _ _ _ _)] <;> omega)
        · refine jr.lconst (x := 1) rfl (by decide) ?_
          refine jr.goto rfl rfl ?_
          refine jr.lstore rfl (by decide) rfl ?_
          refine jr.pick [0, 2] rfl rfl ?_
          exact r_bySign_L291 q (ju M 598 131 (v1 - 1)) 1 (RI.u hI_M (a := 598) (i := 131) (show (0 : Int) ≤ _ ∧ _ ≤ (400 : Int) from by omega)) (RH.o hH_M (by decide) (by decide) (by decide)) (RF.o hS_M (by decide) (by decide))  (fun a i f598 f686 => ((ju_c _ _ f598).trans rfl)) (fun i g131 g135 => ((ju_i _ _ g131).trans rfl)) (by omega) (by rw [(ju_same _ _ _ _)] <;> omega)
      · refine jr.tsw_k 59 rfl h59 rfl ?_
        refine jr.lload rfl rfl ?_
        refine jr.lload_n rfl rfl ?_
        refine jr.lcmp_le rfl rfl rfl (by omega) (by omega) (fun h280 => ?_) (fun h280 => ?_)
        · refine jr.lconst (x := 0) rfl (by decide) ?_
          refine jr.lstore rfl (by decide) rfl ?_
          refine jr.pick [0, 2] rfl rfl ?_
          exact r_bySign_L291 q (ju M 598 131 (v1 - 1)) 0 (RI.u hI_M (a := 598) (i := 131) (show (0 : Int) ≤ _ ∧ _ ≤ (400 : Int) from by omega)) (RH.o hH_M (by decide) (by decide) (by decide)) (RF.o hS_M (by decide) (by decide))  (fun a i f598 f686 => ((ju_c _ _ f598).trans rfl)) (fun i g131 g135 => ((ju_i _ _ g131).trans rfl)) (by omega) (by rw [(ju_same _ _ _ _)] <;> omega)
        · refine jr.lconst (x := 1) rfl (by decide) ?_
          refine jr.goto rfl rfl ?_
          refine jr.lstore rfl (by decide) rfl ?_
          refine jr.pick [0, 2] rfl rfl ?_
          exact r_bySign_L291 q (ju M 598 131 (v1 - 1)) 1 (RI.u hI_M (a := 598) (i := 131) (show (0 : Int) ≤ _ ∧ _ ≤ (400 : Int) from by omega)) (RH.o hH_M (by decide) (by decide) (by decide)) (RF.o hS_M (by decide) (by decide))  (fun a i f598 f686 => ((ju_c _ _ f598).trans rfl)) (fun i g131 g135 => ((ju_i _ _ g131).trans rfl)) (by omega) (by rw [(ju_same _ _ _ _)] <;> omega)
      · refine jr.tsw_k 60 rfl h59 rfl ?_
        refine jr.lload rfl rfl ?_
        refine jr.lload_n rfl rfl ?_
        refine jr.lcmp_ge rfl rfl rfl (by omega) (by omega) (fun h263 => ?_) (fun h263 => ?_)
        · refine jr.lconst (x := 0) rfl (by decide) ?_
          refine jr.lstore rfl (by decide) rfl ?_
          refine jr.goto rfl rfl ?_
          refine jr.pick [0, 2] rfl rfl ?_
          exact r_bySign_L291 q (ju M 598 131 (v1 - 1)) 0 (RI.u hI_M (a := 598) (i := 131) (show (0 : Int) ≤ _ ∧ _ ≤ (400 : Int) from by omega)) (RH.o hH_M (by decide) (by decide) (by decide)) (RF.o hS_M (by decide) (by decide))  (fun a i f598 f686 => ((ju_c _ _ f598).trans rfl)) (fun i g131 g135 => ((ju_i _ _ g131).trans rfl)) (by omega) (by rw [(ju_same _ _ _ _)] <;> omega)
        · refine jr.lconst (x := 1) rfl (by decide) ?_
          refine jr.goto rfl rfl ?_
          refine jr.lstore rfl (by decide) rfl ?_
          refine jr.goto rfl rfl ?_
          refine jr.pick [0, 2] rfl rfl ?_
          exact r_bySign_L291 q (ju M 598 131 (v1 - 1)) 1 (RI.u hI_M (a := 598) (i := 131) (show (0 : Int) ≤ _ ∧ _ ≤ (400 : Int) from by omega)) (RH.o hH_M (by decide) (by decide) (by decide)) (RF.o hS_M (by decide) (by decide))  (fun a i f598 f686 => ((ju_c _ _ f598).trans rfl)) (fun i g131 g135 => ((ju_i _ _ g131).trans rfl)) (by omega) (by rw [(ju_same _ _ _ _)] <;> omega)
      · refine jr.tsw_k 61 rfl h59 rfl ?_
        refine jr.lload rfl rfl ?_
        refine jr.lload_n rfl rfl ?_
        refine jr.lcmp_ne rfl rfl rfl (by omega) (by omega) (fun h246 => ?_) (fun h246 => ?_)
        · refine jr.lconst (x := 0) rfl (by decide) ?_
          refine jr.lstore rfl (by decide) rfl ?_
          refine jr.goto rfl rfl ?_
          refine jr.pick [0, 2] rfl rfl ?_
          exact r_bySign_L291 q (ju M 598 131 (v1 - 1)) 0 (RI.u hI_M (a := 598) (i := 131) (show (0 : Int) ≤ _ ∧ _ ≤ (400 : Int) from by omega)) (RH.o hH_M (by decide) (by decide) (by decide)) (RF.o hS_M (by decide) (by decide))  (fun a i f598 f686 => ((ju_c _ _ f598).trans rfl)) (fun i g131 g135 => ((ju_i _ _ g131).trans rfl)) (by omega) (by rw [(ju_same _ _ _ _)] <;> omega)
        · refine jr.lconst (x := 1) rfl (by decide) ?_
          refine jr.goto rfl rfl ?_
          refine jr.lstore rfl (by decide) rfl ?_
          refine jr.goto rfl rfl ?_
          refine jr.pick [0, 2] rfl rfl ?_
          exact r_bySign_L291 q (ju M 598 131 (v1 - 1)) 1 (RI.u hI_M (a := 598) (i := 131) (show (0 : Int) ≤ _ ∧ _ ≤ (400 : Int) from by omega)) (RH.o hH_M (by decide) (by decide) (by decide)) (RF.o hS_M (by decide) (by decide))  (fun a i f598 f686 => ((ju_c _ _ f598).trans rfl)) (fun i g131 g135 => ((ju_i _ _ g131).trans rfl)) (by omega) (by rw [(ju_same _ _ _ _)] <;> omega)
      · refine jr.tsw_d rfl (by omega) (by omega) rfl ?_
        refine jr.lload rfl rfl ?_
        refine jr.lload_n rfl rfl ?_
        refine jr.lcmp_le rfl rfl rfl (by omega) (by omega) (fun h280 => ?_) (fun h280 => ?_)
        · refine jr.lconst (x := 0) rfl (by decide) ?_
          refine jr.lstore rfl (by decide) rfl ?_
          refine jr.pick [0, 2] rfl rfl ?_
          exact r_bySign_L291 q (ju M 598 131 (v1 - 1)) 0 (RI.u hI_M (a := 598) (i := 131) (show (0 : Int) ≤ _ ∧ _ ≤ (400 : Int) from by omega)) (RH.o hH_M (by decide) (by decide) (by decide)) (RF.o hS_M (by decide) (by decide))  (fun a i f598 f686 => ((ju_c _ _ f598).trans rfl)) (fun i g131 g135 => ((ju_i _ _ g131).trans rfl)) (by omega) (by rw [(ju_same _ _ _ _)] <;> omega)
        · refine jr.lconst (x := 1) rfl (by decide) ?_
          refine jr.goto rfl rfl ?_
          refine jr.lstore rfl (by decide) rfl ?_
          refine jr.pick [0, 2] rfl rfl ?_
          exact r_bySign_L291 q (ju M 598 131 (v1 - 1)) 1 (RI.u hI_M (a := 598) (i := 131) (show (0 : Int) ≤ _ ∧ _ ≤ (400 : Int) from by omega)) (RH.o hH_M (by decide) (by decide) (by decide)) (RF.o hS_M (by decide) (by decide))  (fun a i f598 f686 => ((ju_c _ _ f598).trans rfl)) (fun i g131 g135 => ((ju_i _ _ g131).trans rfl)) (by omega) (by rw [(ju_same _ _ _ _)] <;> omega)
    · refine jr.lload_n rfl rfl ?_
      refine jr.lconst (x := 0) rfl (by decide) ?_
      refine jr.lcmp_ne rfl rfl rfl (by omega) (by omega) (fun h47 => ?_) (fun h47 => ?_)
      · refine jr.iload_n rfl rfl ?_
        rcases (show s = 37 by omega) with h59
        · refine jr.tsw_k 37 rfl h59 rfl ?_
          refine jr.lload_n rfl rfl ?_
          refine jr.ldc2 (x := (-1)) rfl rfl (by decide) ?_
          refine jr.lcmp_ne rfl rfl rfl (by omega) (by omega) (fun h226 => ?_) (fun h226 => ?_)
          · refine jr.lload rfl rfl ?_
            refine jr.lload_n rfl rfl ?_
            refine jr.lrem rfl (jl_nz (by omega)) ?_
            have b13 : -9223372036854775808 ≤ jl_rem v3 v2 ∧ jl_rem v3 v2 ≤ 9223372036854775807 := jbl_any _
            generalize jl_rem v3 v2 = v13 at b13 ⊢
            refine jr.lstore rfl (by decide) rfl ?_
            refine jr.goto rfl rfl ?_
            refine jr.pick [0, 2] rfl rfl ?_
            exact r_bySign_L291 q (ju M 598 131 (v1 - 1)) v13 (RI.u hI_M (a := 598) (i := 131) (show (0 : Int) ≤ _ ∧ _ ≤ (400 : Int) from by omega)) (RH.o hH_M (by decide) (by decide) (by decide)) (RF.o hS_M (by decide) (by decide))  (fun a i f598 f686 => ((ju_c _ _ f598).trans rfl)) (fun i g131 g135 => ((ju_i _ _ g131).trans rfl)) (by omega) (by rw [(ju_same _ _ _ _)] <;> omega)
          · refine jr.lconst (x := 0) rfl (by decide) ?_
            refine jr.goto rfl rfl ?_
            refine jr.lstore rfl (by decide) rfl ?_
            refine jr.goto rfl rfl ?_
            refine jr.pick [0, 2] rfl rfl ?_
            exact r_bySign_L291 q (ju M 598 131 (v1 - 1)) 0 (RI.u hI_M (a := 598) (i := 131) (show (0 : Int) ≤ _ ∧ _ ≤ (400 : Int) from by omega)) (RH.o hH_M (by decide) (by decide) (by decide)) (RF.o hS_M (by decide) (by decide))  (fun a i f598 f686 => ((ju_c _ _ f598).trans rfl)) (fun i g131 g135 => ((ju_i _ _ g131).trans rfl)) (by omega) (by rw [(ju_same _ _ _ _)] <;> omega)
      · refine jr.aload_n rfl rfl ?_
        refine jr.bipush rfl (by decide) ?_
        refine jr.putf (i := 135) (x := 6) rfl rfl (by decide) rfl (by decide) rfl rfl rfl rfl rfl ?_
        have y14 : (ju (ju M 598 131 (v1 - 1)) 598 135 6) 598 131 = v1 - 1 := ((ju_i _ _ (by decide)).trans (ju_same _ _ _ _))
        exact jr.vreturn rfl rfl (q _ (RI.u (RI.u hI_M (a := 598) (i := 131) (show (0 : Int) ≤ _ ∧ _ ≤ (400 : Int) from by omega)) (a := 598) (i := 135) (show (0 : Int) ≤ _ ∧ _ ≤ (8 : Int) from by omega)) (RH.o (RH.o hH_M (by decide) (by decide) (by decide)) (by decide) (by decide) (by decide)) (RF.o (RF.o hS_M (by decide) (by decide)) (by decide) (by decide))  (by omega) (fun a i f598 f686 => ((ju_c _ _ f598).trans ((ju_c _ _ f598).trans rfl))) (fun i g131 g135 => ((ju_i _ _ g135).trans ((ju_i _ _ g131).trans rfl))))
