theorem r_look_L27 {A : Nat → Option (Nat × (Nat → Int32))} {Q : Option Value → jm → Prop} {T : jm} {M0 : jm} {x0 : Int} (q : ∀ (M' : jm), RI M' → RH M' → RF M' → Kp T M' → LK x0 M' → (∀ (a : Nat) (i : Int), a ≠ 598 → a ≠ 603 → a ≠ 604 → a ≠ 605 → M' a i = M0 a i) → (∀ (i : Int), i ≠ 6 → i ≠ 10 → i ≠ 11 → i ≠ 12 → M' 598 i = M0 598 i) → Q none M') : ∀ (n : Nat) (M : jm) (o : Int) (k : Int) (a : Int) (x : Int), RI M → RH M → RF M → Kp T M → (∀ (a : Nat) (i : Int), a ≠ 598 → a ≠ 603 → a ≠ 604 → a ≠ 605 → M a i = M0 a i) → (∀ (i : Int), i ≠ 6 → i ≠ 10 → i ≠ 11 → i ≠ 12 → M 598 i = M0 598 i) → 0 ≤ o ∧ o ≤ 1 → 0 ≤ k ∧ k ≤ 11 → 0 ≤ a ∧ a ≤ 400 → 0 ≤ x ∧ x ≤ 23 → 0 ≤ M 600 x ∧ M 600 x ≤ 400 → LK x M → x = x0 → 13 - M 598 6 ≤ n → jr A 3 xm_266 27 [(4, .int (Int32.ofInt (o))), (3, .int (Int32.ofInt (k))), (2, .int (Int32.ofInt (a))), (1, .int (Int32.ofInt (x))), (0, .ref (598))] [] M Q := by
  intro n
  induction n using Nat.strongRecOn with
  | ind n ih =>
    intro M o k a x hI_M hH_M hS_M ht_M hF_M hG_M h_o h_k h_a h_x hy0 hy1 hy2 hm
    subst hy2
    have lk := lst_j h_k
    refine jr.iload rfl rfl ?_
    refine jr.if_eq rfl rfl (by omega) (fun h29 => ?_) (fun h29 => ?_)
    · exact jr.vreturn rfl rfl (q _ hI_M hH_M hS_M ht_M hy1 (fun a i f598 f603 f604 f605 => (hF_M a i f598 f603 f604 f605)) (fun i g6 g10 g11 g12 => (hG_M i g6 g10 g11 g12)))
    · have sx29 : (1 : Int) ≤ o := by omega
      clear h29
      refine jr.iload_n rfl rfl ?_
      refine jr.bipush rfl (by decide) ?_
      refine jr.icmp_ne rfl rfl (by omega) (by omega) (fun h35 => ?_) (fun h35 => ?_)
      · have sx35 : k ≤ (10 : Int) := by omega
        clear h35
        refine jr.aload_n rfl rfl ?_
        refine jr.iload_n rfl rfl ?_
        refine jr_v rfl rfl (Or.inl rfl) rfl rfl (by decide) rfl ⟨rfl, Nat.le_of_ble_eq_true rfl, Nat.le_of_ble_eq_true rfl⟩ rfl (jc.deep (r_against hI_M hH_M hS_M ht_M (by omega)  (fun r1 z1 w1_0 => ?_)) (by decide))
        refine jr.istore (ls' := [_, _, _, _, _, _]) rfl (by decide) rfl ?_
        refine jr.iload rfl rfl ?_
        refine jr.if_eq rfl rfl (by omega) (fun h58 => ?_) (fun h58 => ?_)
        · refine jr.iload_n rfl rfl ?_
          refine jr.bipush rfl (by decide) ?_
          refine jr.icmp_ne rfl rfl (by omega) (by omega) (fun h73 => ?_) (fun h73 => ?_)
          · refine jr.aload_n rfl rfl ?_
            refine jr.iload_n rfl rfl ?_
            refine jr.iload_n rfl rfl ?_
            refine jr.iload_n rfl rfl ?_
            obtain ⟨v3, e3⟩ : ∃ z, M 600 x = z := ⟨_, rfl⟩
            have b3 : (-1) ≤ v3 ∧ v3 ≤ 400 := by rw [← e3]; exact (by have q := hI_M 600 x (by decide); rw [xri_row rfl rfl] at q; exact q)
            refine jr_v rfl rfl (Or.inl rfl) rfl rfl (by decide) rfl ⟨rfl, Nat.le_of_ble_eq_true rfl, Nat.le_of_ble_eq_true rfl⟩ rfl (jc.deep (r_measure hI_M hH_M hS_M ht_M (by omega) (by omega) (by omega) (by rw [e3]; omega) (fun r2 M2 hI_M2 hH_M2 hS_M2 ht_M2 z2 w2_0 w2_1 w2_2 w2_3 => ?_)) (by decide))
            refine jr.istore (ls' := [_, _, _, _, _, _, _]) rfl (by decide) rfl ?_
            refine jr.iload rfl rfl ?_
            refine jr.iconst rfl ?_
            refine jr.icmp_ne rfl rfl (by omega) (by omega) (fun h99 => ?_) (fun h99 => ?_)
            · have sx99 : (0 : Int) ≤ r2 := by omega
              clear h99
              refine jr.aload_n rfl rfl ?_
              refine jr.getf (i := 7) (v := .ref 603) rfl rfl (by decide) rfl (by decide) rfl rfl rfl rfl ?_
              refine jr.aload_n rfl rfl ?_
              obtain ⟨v4, e4⟩ : ∃ z, M 598 6 = z := ⟨_, rfl⟩
              have b4 : 0 ≤ v4 ∧ v4 ≤ 12 := by rw [← e4]; exact hI_M 598 6 (by decide)
              have e5 : M2 598 6 = v4 := ((w2_3 6 (by decide) (by decide) (by decide)).trans e4)
              refine jr.getf (i := 6) (x := v4) (v := .int (Int32.ofInt (v4))) rfl rfl (by decide) rfl (by decide) rfl rfl e5 rfl ?_
              refine jr.iload_n rfl rfl ?_
              refine jr.iast (i := v4) (x := k) rfl (by decide) rfl (by decide) (by omega) (by omega) ?_
              refine jr.aload_n rfl rfl ?_
              refine jr.getf (i := 8) (v := .ref 604) rfl rfl (by decide) rfl (by decide) rfl rfl rfl rfl ?_
              refine jr.aload_n rfl rfl ?_
              refine jr.getf (i := 6) (x := v4) (v := .int (Int32.ofInt (v4))) rfl rfl (by decide) rfl (by decide) rfl rfl ((ju_c _ _ (by decide)).trans e5) rfl ?_
              refine jr.iload_n rfl rfl ?_
              refine jr.iast (i := v4) (x := a) rfl (by decide) rfl (by decide) (by omega) (by omega) ?_
              refine jr.aload_n rfl rfl ?_
              refine jr.getf (i := 9) (v := .ref 605) rfl rfl (by decide) rfl (by decide) rfl rfl rfl rfl ?_
              refine jr.aload_n rfl rfl ?_
              refine jr.getf (i := 6) (x := v4) (v := .int (Int32.ofInt (v4))) rfl rfl (by decide) rfl (by decide) rfl rfl ((ju_c _ _ (by decide)).trans ((ju_c _ _ (by decide)).trans e5)) rfl ?_
              refine jr.iload rfl rfl ?_
              refine jr.iast (i := v4) (x := r2) rfl (by decide) rfl (by decide) (by omega) (by omega) ?_
              refine jr.aload_n rfl rfl ?_
              refine jr.dup rfl rfl ?_
              refine jr.getf (i := 6) (x := v4) (v := .int (Int32.ofInt (v4))) rfl rfl (by decide) rfl (by decide) rfl rfl ((ju_c _ _ (by decide)).trans ((ju_c _ _ (by decide)).trans ((ju_c _ _ (by decide)).trans e5))) rfl ?_
              refine jr.iconst rfl ?_
              refine jr.iadd rfl ?_
              refine jr.putf (i := 6) (x := (v4 + 1)) rfl rfl (by decide) rfl (by decide) rfl rfl rfl rfl rfl ?_
              refine jr.iload_n rfl rfl ?_
              refine jr.bipush rfl (by decide) ?_
              refine jr.icmp_eq rfl rfl (by omega) (by omega) (fun h147 => ?_) (fun h147 => ?_)
              · exact absurd h147 (by omega)
              · refine jr.iconst rfl ?_
                refine jr.goto rfl rfl ?_
                refine jr.istore (ls' := [_, _, _, _, _, _, _]) rfl (by decide) rfl ?_
                refine jr.iload rfl rfl ?_
                refine jr.if_eq rfl rfl (by omega) (fun h => absurd h (by decide)) (fun _ => ?_)
                refine jr.aload_n rfl rfl ?_
                refine jr.iload_n rfl rfl ?_
                refine jr.iload_n rfl rfl ?_
                refine jr.iload_n rfl rfl ?_
                refine jr_v rfl rfl (Or.inl rfl) rfl rfl (by decide) rfl ⟨rfl, Nat.le_of_ble_eq_true rfl, Nat.le_of_ble_eq_true rfl⟩ rfl (jc.deep (r_behind (RI.u (RI.u (RI.u (RI.u hI_M2 (a := 603) (i := v4) (by rw [xri_row rfl rfl]; show (0 : Int) ≤ _ ∧ _ ≤ (11 : Int); omega)) (a := 604) (i := v4) (by rw [xri_row rfl rfl]; show (0 : Int) ≤ _ ∧ _ ≤ (400 : Int); omega)) (a := 605) (i := v4) (by rw [xri_row rfl rfl]; show (0 : Int) ≤ _ ∧ _ ≤ (400 : Int); omega)) (a := 598) (i := 6) (show (0 : Int) ≤ _ ∧ _ ≤ (12 : Int) from by omega)) (RH.o (RH.w hH_M2 (j := v4) (k := k) (a := a) (s := r2) (by omega) (by omega) (by omega)) (by decide) (by decide) (by decide)) (RF.o (RF.o (RF.o (RF.o hS_M2 (by decide) (by decide)) (by decide) (by decide)) (by decide) (by decide)) (by decide) (by decide)) (Kp.o (Kp.o (Kp.o (Kp.o ht_M2 rfl) rfl) rfl) rfl) (by omega) (by omega) (by omega) (by omega) (fun r6 z6  => ?_)) (by decide))
                refine jr.goto rfl rfl ?_
                refine jr.istore_n (ls' := [_, _, _, _, _, _, _]) rfl (by decide) rfl ?_
                refine jr.iload_n rfl rfl ?_
                refine jr.iload rfl rfl ?_
                refine jr.iadd rfl ?_
                refine jr.istore_n (ls' := [_, _, _, _, _, _, _]) rfl (by decide) rfl ?_
                refine jr.goto rfl rfl ?_
                have e7 : M2 600 x = v3 := ((w2_2 600 x (by decide)).trans e3)
                refine jr.pick (ls := [_, _, _, _, _]) [2, 1, 0, 5, 6] rfl rfl ?_
                exact ih (n - 1) (by omega) (ju (ju (ju (ju M2 603 v4 k) 604 v4 a) 605 v4 r2) 598 6 (v4 + 1)) 1 r6 (a + r2) x (RI.u (RI.u (RI.u (RI.u hI_M2 (a := 603) (i := v4) (by rw [xri_row rfl rfl]; show (0 : Int) ≤ _ ∧ _ ≤ (11 : Int); omega)) (a := 604) (i := v4) (by rw [xri_row rfl rfl]; show (0 : Int) ≤ _ ∧ _ ≤ (400 : Int); omega)) (a := 605) (i := v4) (by rw [xri_row rfl rfl]; show (0 : Int) ≤ _ ∧ _ ≤ (400 : Int); omega)) (a := 598) (i := 6) (show (0 : Int) ≤ _ ∧ _ ≤ (12 : Int) from by omega)) (RH.o (RH.w hH_M2 (j := v4) (k := k) (a := a) (s := r2) (by omega) (by omega) (by omega)) (by decide) (by decide) (by decide)) (RF.o (RF.o (RF.o (RF.o hS_M2 (by decide) (by decide)) (by decide) (by decide)) (by decide) (by decide)) (by decide) (by decide)) (Kp.o (Kp.o (Kp.o (Kp.o ht_M2 rfl) rfl) rfl) rfl) (fun a i f598 f603 f604 f605 => ((ju_c _ _ f598).trans ((ju_c _ _ f605).trans ((ju_c _ _ f604).trans ((ju_c _ _ f603).trans ((w2_2 a i f598).trans (hF_M a i f598 f603 f604 f605))))))) (fun i g6 g10 g11 g12 => ((ju_i _ _ g6).trans ((ju_c _ _ (by decide)).trans ((ju_c _ _ (by decide)).trans ((ju_c _ _ (by decide)).trans ((w2_3 i g10 g11 g12).trans (hG_M i g6 g10 g11 g12))))))) (by omega) (by omega) (by omega) (by omega) (by rw [((ju_c _ _ (by decide)).trans ((ju_c _ _ (by decide)).trans ((ju_c _ _ (by decide)).trans ((ju_c _ _ (by decide)).trans e7))))]; omega) (LK.add (LK.fr hy1 (w2_3 6 (by decide) (by decide) (by decide)) (fun i => w2_2 600 i (by decide)) (fun i => w2_2 601 i (by decide)) (fun i => w2_2 603 i (by decide)) (fun i => w2_2 604 i (by decide)) (fun i => w2_2 605 i (by decide))) e5 (by rw [w2_2 600 _ (by decide)]; omega) (by omega) (fun q => by have z := w2_1 q; rw [w2_2 601 _ (by decide)]; omega)) (by omega) (by rw [(ju_same _ _ _ _)]; omega)
            · exact jr.vreturn rfl rfl (q _ hI_M2 hH_M2 hS_M2 ht_M2 (LK.fr hy1 (w2_3 6 (by decide) (by decide) (by decide)) (fun i => w2_2 600 i (by decide)) (fun i => w2_2 601 i (by decide)) (fun i => w2_2 603 i (by decide)) (fun i => w2_2 604 i (by decide)) (fun i => w2_2 605 i (by decide))) (fun a i f598 f603 f604 f605 => ((w2_2 a i f598).trans (hF_M a i f598 f603 f604 f605))) (fun i g6 g10 g11 g12 => ((w2_3 i g10 g11 g12).trans (hG_M i g6 g10 g11 g12))))
          · exact absurd (by omega) h73
        · have sx58 : (1 : Int) ≤ r1 := by omega
          clear h58
          refine jr.aload_n rfl rfl ?_
          refine jr.iload rfl rfl ?_
          refine jr.iload_n rfl rfl ?_
          refine jr.iload_n rfl rfl ?_
          refine jr_v rfl rfl (Or.inl rfl) rfl rfl (by decide) rfl ⟨rfl, Nat.le_of_ble_eq_true rfl, Nat.le_of_ble_eq_true rfl⟩ rfl (jc.deep (r_finds hI_M hH_M hS_M ht_M (by omega) (by omega) (by omega)  (fun M8 hI_M8 hH_M8 hS_M8 ht_M8 w8_0 w8_1 => ?_)) (by decide))
          exact jr.vreturn rfl rfl (q _ hI_M8 hH_M8 hS_M8 ht_M8 (LK.fr hy1 (w8_1 6 (by decide) (by decide) (by decide)) (fun i => w8_0 600 i (by decide)) (fun i => w8_0 601 i (by decide)) (fun i => w8_0 603 i (by decide)) (fun i => w8_0 604 i (by decide)) (fun i => w8_0 605 i (by decide))) (fun a i f598 f603 f604 f605 => ((w8_0 a i f598).trans (hF_M a i f598 f603 f604 f605))) (fun i g6 g10 g11 g12 => ((w8_1 i g10 g11 g12).trans (hG_M i g6 g10 g11 g12))))
      · refine jr.iload_n rfl rfl ?_
        refine jr.aload_n rfl rfl ?_
        refine jr.getf (i := 3) (v := .ref 600) rfl rfl (by decide) rfl (by decide) rfl rfl rfl rfl ?_
        refine jr.iload_n rfl rfl ?_
        obtain ⟨v9, e9⟩ : ∃ z, M 600 x = z := ⟨_, rfl⟩
        have b9 : (-1) ≤ v9 ∧ v9 ≤ 400 := by rw [← e9]; exact (by have q := hI_M 600 x (by decide); rw [xri_row rfl rfl] at q; exact q)
        refine jr.iald (i := x) (x := v9) rfl (by decide) rfl (by decide) (by omega) (by omega) e9 ?_
        refine jr.icmp_lt rfl rfl (by omega) (by omega) (fun h45 => ?_) (fun h45 => ?_)
        · refine jr.aload_n rfl rfl ?_
          refine jr.iload_n rfl rfl ?_
          refine jr_v rfl rfl (Or.inl rfl) rfl rfl (by decide) rfl ⟨rfl, Nat.le_of_ble_eq_true rfl, Nat.le_of_ble_eq_true rfl⟩ rfl (jc.deep (r_against hI_M hH_M hS_M ht_M (by omega)  (fun r10 z10 w10_0 => ?_)) (by decide))
          refine jr.istore (ls' := [_, _, _, _, _, _]) rfl (by decide) rfl ?_
          refine jr.iload rfl rfl ?_
          refine jr.if_eq rfl rfl (by omega) (fun h58 => ?_) (fun h58 => ?_)
          · refine jr.iload_n rfl rfl ?_
            refine jr.bipush rfl (by decide) ?_
            refine jr.icmp_ne rfl rfl (by omega) (by omega) (fun h73 => ?_) (fun h73 => ?_)
            · exact absurd h73 (by omega)
            · refine jr.aload_n rfl rfl ?_
              refine jr.getf (i := 3) (v := .ref 600) rfl rfl (by decide) rfl (by decide) rfl rfl rfl rfl ?_
              refine jr.iload_n rfl rfl ?_
              refine jr.iald (i := x) (x := v9) rfl (by decide) rfl (by decide) (by omega) (by omega) e9 ?_
              refine jr.iload_n rfl rfl ?_
              refine jr.isub rfl ?_
              refine jr.goto rfl rfl ?_
              refine jr.istore (ls' := [_, _, _, _, _, _, _]) rfl (by decide) rfl ?_
              refine jr.iload rfl rfl ?_
              refine jr.iconst rfl ?_
              refine jr.icmp_ne rfl rfl (by omega) (by omega) (fun h99 => ?_) (fun h99 => ?_)
              · refine jr.aload_n rfl rfl ?_
                refine jr.getf (i := 7) (v := .ref 603) rfl rfl (by decide) rfl (by decide) rfl rfl rfl rfl ?_
                refine jr.aload_n rfl rfl ?_
                obtain ⟨v11, e11⟩ : ∃ z, M 598 6 = z := ⟨_, rfl⟩
                have b11 : 0 ≤ v11 ∧ v11 ≤ 12 := by rw [← e11]; exact hI_M 598 6 (by decide)
                refine jr.getf (i := 6) (x := v11) (v := .int (Int32.ofInt (v11))) rfl rfl (by decide) rfl (by decide) rfl rfl e11 rfl ?_
                refine jr.iload_n rfl rfl ?_
                refine jr.iast (i := v11) (x := k) rfl (by decide) rfl (by decide) (by omega) (by omega) ?_
                refine jr.aload_n rfl rfl ?_
                refine jr.getf (i := 8) (v := .ref 604) rfl rfl (by decide) rfl (by decide) rfl rfl rfl rfl ?_
                refine jr.aload_n rfl rfl ?_
                refine jr.getf (i := 6) (x := v11) (v := .int (Int32.ofInt (v11))) rfl rfl (by decide) rfl (by decide) rfl rfl ((ju_c _ _ (by decide)).trans e11) rfl ?_
                refine jr.iload_n rfl rfl ?_
                refine jr.iast (i := v11) (x := a) rfl (by decide) rfl (by decide) (by omega) (by omega) ?_
                refine jr.aload_n rfl rfl ?_
                refine jr.getf (i := 9) (v := .ref 605) rfl rfl (by decide) rfl (by decide) rfl rfl rfl rfl ?_
                refine jr.aload_n rfl rfl ?_
                refine jr.getf (i := 6) (x := v11) (v := .int (Int32.ofInt (v11))) rfl rfl (by decide) rfl (by decide) rfl rfl ((ju_c _ _ (by decide)).trans ((ju_c _ _ (by decide)).trans e11)) rfl ?_
                refine jr.iload rfl rfl ?_
                refine jr.iast (i := v11) (x := (v9 - a)) rfl (by decide) rfl (by decide) (by omega) (by omega) ?_
                refine jr.aload_n rfl rfl ?_
                refine jr.dup rfl rfl ?_
                refine jr.getf (i := 6) (x := v11) (v := .int (Int32.ofInt (v11))) rfl rfl (by decide) rfl (by decide) rfl rfl ((ju_c _ _ (by decide)).trans ((ju_c _ _ (by decide)).trans ((ju_c _ _ (by decide)).trans e11))) rfl ?_
                refine jr.iconst rfl ?_
                refine jr.iadd rfl ?_
                refine jr.putf (i := 6) (x := (v11 + 1)) rfl rfl (by decide) rfl (by decide) rfl rfl rfl rfl rfl ?_
                refine jr.iload_n rfl rfl ?_
                refine jr.bipush rfl (by decide) ?_
                refine jr.icmp_eq rfl rfl (by omega) (by omega) (fun h147 => ?_) (fun h147 => ?_)
                · refine jr.iconst rfl ?_
                  refine jr.istore (ls' := [_, _, _, _, _, _, _]) rfl (by decide) rfl ?_
                  refine jr.iload rfl rfl ?_
                  refine jr.if_eq rfl rfl (by omega) (fun _ => ?_) (fun h => absurd (by decide) h)
                  refine jr.bipush rfl (by decide) ?_
                  refine jr.istore_n (ls' := [_, _, _, _, _, _, _]) rfl (by decide) rfl ?_
                  refine jr.iload_n rfl rfl ?_
                  refine jr.iload rfl rfl ?_
                  refine jr.iadd rfl ?_
                  refine jr.istore_n (ls' := [_, _, _, _, _, _, _]) rfl (by decide) rfl ?_
                  refine jr.goto rfl rfl ?_
                  refine jr.pick (ls := [_, _, _, _, _]) [2, 1, 0, 5, 6] rfl rfl ?_
                  exact ih (n - 1) (by omega) (ju (ju (ju (ju M 603 v11 k) 604 v11 a) 605 v11 (v9 - a)) 598 6 (v11 + 1)) 0 11 (a + (v9 - a)) x (RI.u (RI.u (RI.u (RI.u hI_M (a := 603) (i := v11) (by rw [xri_row rfl rfl]; show (0 : Int) ≤ _ ∧ _ ≤ (11 : Int); omega)) (a := 604) (i := v11) (by rw [xri_row rfl rfl]; show (0 : Int) ≤ _ ∧ _ ≤ (400 : Int); omega)) (a := 605) (i := v11) (by rw [xri_row rfl rfl]; show (0 : Int) ≤ _ ∧ _ ≤ (400 : Int); omega)) (a := 598) (i := 6) (show (0 : Int) ≤ _ ∧ _ ≤ (12 : Int) from by omega)) (RH.o (RH.w hH_M (j := v11) (k := k) (a := a) (s := (v9 - a)) (by omega) (by omega) (by omega)) (by decide) (by decide) (by decide)) (RF.o (RF.o (RF.o (RF.o hS_M (by decide) (by decide)) (by decide) (by decide)) (by decide) (by decide)) (by decide) (by decide)) (Kp.o (Kp.o (Kp.o (Kp.o ht_M rfl) rfl) rfl) rfl) (fun a i f598 f603 f604 f605 => ((ju_c _ _ f598).trans ((ju_c _ _ f605).trans ((ju_c _ _ f604).trans ((ju_c _ _ f603).trans (hF_M a i f598 f603 f604 f605)))))) (fun i g6 g10 g11 g12 => ((ju_i _ _ g6).trans ((ju_c _ _ (by decide)).trans ((ju_c _ _ (by decide)).trans ((ju_c _ _ (by decide)).trans (hG_M i g6 g10 g11 g12)))))) (by omega) (by omega) (by omega) (by omega) (by rw [((ju_c _ _ (by decide)).trans ((ju_c _ _ (by decide)).trans ((ju_c _ _ (by decide)).trans ((ju_c _ _ (by decide)).trans e9))))]; omega) (LK.add hy1 e11 (by omega) (by omega) (fun q => absurd q (by omega))) (by omega) (by rw [(ju_same _ _ _ _)]; omega)
                · exact absurd (by omega) h147
              · exact jr.vreturn rfl rfl (q _ hI_M hH_M hS_M ht_M hy1 (fun a i f598 f603 f604 f605 => (hF_M a i f598 f603 f604 f605)) (fun i g6 g10 g11 g12 => (hG_M i g6 g10 g11 g12)))
          · have sx58 : (1 : Int) ≤ r10 := by omega
            clear h58
            refine jr.aload_n rfl rfl ?_
            refine jr.iload rfl rfl ?_
            refine jr.iload_n rfl rfl ?_
            refine jr.iload_n rfl rfl ?_
            refine jr_v rfl rfl (Or.inl rfl) rfl rfl (by decide) rfl ⟨rfl, Nat.le_of_ble_eq_true rfl, Nat.le_of_ble_eq_true rfl⟩ rfl (jc.deep (r_finds hI_M hH_M hS_M ht_M (by omega) (by omega) (by omega)  (fun M12 hI_M12 hH_M12 hS_M12 ht_M12 w12_0 w12_1 => ?_)) (by decide))
            exact jr.vreturn rfl rfl (q _ hI_M12 hH_M12 hS_M12 ht_M12 (LK.fr hy1 (w12_1 6 (by decide) (by decide) (by decide)) (fun i => w12_0 600 i (by decide)) (fun i => w12_0 601 i (by decide)) (fun i => w12_0 603 i (by decide)) (fun i => w12_0 604 i (by decide)) (fun i => w12_0 605 i (by decide))) (fun a i f598 f603 f604 f605 => ((w12_0 a i f598).trans (hF_M a i f598 f603 f604 f605))) (fun i g6 g10 g11 g12 => ((w12_1 i g10 g11 g12).trans (hG_M i g6 g10 g11 g12))))
        · exact jr.vreturn rfl rfl (q _ hI_M hH_M hS_M ht_M hy1 (fun a i f598 f603 f604 f605 => (hF_M a i f598 f603 f604 f605)) (fun i g6 g10 g11 g12 => (hG_M i g6 g10 g11 g12)))
