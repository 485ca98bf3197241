theorem r_list {A : Nat → Option (Nat × (Nat → Int32))} {Q : Option Value → jm → Prop} {M : jm} (hI_M : RI M) (hH_M : RH M) (hS_M : RF M) {k : Int} (h_k : (-9223372036854775808) ≤ k ∧ k ≤ 9223372036854775807) (q : ∀ (M' : jm), RI M' → RH M' → RF M' → (∀ (a : Nat) (i : Int), a ≠ 598 → a ≠ 603 → a ≠ 604 → a ≠ 605 → a ≠ 674 → a ≠ 675 → a ≠ 677 → a ≠ 678 → M' a i = M a i) → (∀ (i : Int), i ≠ 6 → i ≠ 10 → i ≠ 11 → i ≠ 12 → i ≠ 110 → i ≠ 135 → M' 598 i = M 598 i) → Q none M') : jc A 7 401 [.ref (598), .long (Int64.ofInt (k))] M Q := by
  refine jc_of (m := xm_401) rfl (Nat.le_of_ble_eq_true rfl) rfl ?_
  refine jr.aload_n rfl rfl ?_
  refine jr.lload_n rfl rfl ?_
  refine jr.lconst (x := 0) rfl (by decide) ?_
  refine jr.ldc2 (x := 7) rfl rfl (by decide) ?_
  refine jr_s rfl rfl (Or.inl rfl) ⟨Nat.le_of_ble_eq_true rfl, Nat.le_of_ble_eq_true rfl⟩ rfl rfl (jc.deep (c_within (by omega) (by omega) (by omega) (fun l6 u6 => ?_) (fun n6 => ?_)) (by decide))
  · refine jr.if_ne rfl rfl (by omega) (fun _ => ?_) (fun h => absurd (by decide) h)
    refine jr.aload_n rfl rfl ?_
    refine jr.aload_n rfl rfl ?_
    obtain ⟨v1, e1⟩ : ∃ z, M 598 133 = z := ⟨_, rfl⟩
    have b1 : 0 ≤ v1 ∧ v1 ≤ 23 := by rw [← e1]; exact hI_M 598 133 (by decide)
    refine jr.getf (i := 133) (x := v1) (v := .int (Int32.ofInt (v1))) rfl rfl (by decide) rfl (by decide) rfl rfl e1 rfl ?_
    refine jr_v rfl rfl (Or.inl rfl) rfl rfl (by decide) rfl ⟨rfl, Nat.le_of_ble_eq_true rfl, Nat.le_of_ble_eq_true rfl⟩ rfl (jc.deep (c_isThere hI_M (by omega) (fun l21 u21 t21 => ?_) (fun n21 => ?_)) (by decide))
    · refine jr.if_ne rfl rfl (by omega) (fun _ => ?_) (fun h => absurd (by decide) h)
      refine jr.aload_n rfl rfl ?_
      obtain ⟨v2, e2⟩ : ∃ z, M 598 110 = z := ⟨_, rfl⟩
      have b2 : 0 ≤ v2 ∧ v2 ≤ 10000 := by rw [← e2]; exact hI_M 598 110 (by decide)
      refine jr.getf (i := 110) (x := v2) (v := .int (Int32.ofInt (v2))) rfl rfl (by decide) rfl (by decide) rfl rfl e2 rfl ?_
      refine jr.sipush rfl (by decide) ?_
      refine jr.icmp_ne rfl rfl (by omega) (by omega) (fun h38 => ?_) (fun h38 => ?_)
      · have sx38 : v2 ≤ (9999 : Int) := by omega
        refine jr.iconst rfl ?_
        refine jr.putf (i := 135) (x := 0) rfl rfl (by decide) rfl (by decide) rfl rfl rfl rfl rfl ?_
        refine jr.aload_n rfl rfl ?_
        refine jr.getf (i := 135) (x := 0) (v := .int (Int32.ofInt (0))) rfl rfl (by decide) rfl (by decide) rfl rfl (ju_same _ _ _ _) rfl ?_
        refine jr.if_eq rfl rfl (by omega) (fun h54 => ?_) (fun h54 => ?_)
        · refine jr.aload_n rfl rfl ?_
          refine jr.dup rfl rfl ?_
          refine jr.getf (i := 110) (x := v2) (v := .int (Int32.ofInt (v2))) rfl rfl (by decide) rfl (by decide) rfl rfl ((ju_i _ _ (by decide)).trans e2) rfl ?_
          refine jr.iconst rfl ?_
          refine jr.iadd rfl ?_
          refine jr.putf (i := 110) (x := (v2 + 1)) rfl rfl (by decide) rfl (by decide) rfl rfl rfl rfl rfl ?_
          refine jr.aload_n rfl rfl ?_
          refine jr.aload_n rfl rfl ?_
          refine jr.getf (i := 133) (x := v1) (v := .int (Int32.ofInt (v1))) rfl rfl (by decide) rfl (by decide) rfl rfl ((ju_i _ _ (by decide)).trans ((ju_i _ _ (by decide)).trans e1)) rfl ?_
          obtain ⟨v4, e4⟩ : ∃ z, M 600 v1 = z := ⟨_, rfl⟩
          have b4 : (-1) ≤ v4 ∧ v4 ≤ 400 := by rw [← e4]; exact (by have q := hI_M 600 v1 (by decide); rw [xri_row rfl rfl] at q; exact q)
          refine jr_v rfl rfl (Or.inl rfl) rfl rfl (by decide) rfl ⟨rfl, Nat.le_of_ble_eq_true rfl, Nat.le_of_ble_eq_true rfl⟩ rfl (jc.deep (r_look (RI.u (RI.u hI_M (a := 598) (i := 135) (show (0 : Int) ≤ _ ∧ _ ≤ (8 : Int) from by omega)) (a := 598) (i := 110) (show (0 : Int) ≤ _ ∧ _ ≤ (10000 : Int) from by omega)) (RH.o (RH.o hH_M (by decide) (by decide) (by decide)) (by decide) (by decide) (by decide)) (RF.o (RF.o hS_M (by decide) (by decide)) (by decide) (by decide)) (Kp.rfl _) (by omega) (by rw [((ju_c _ _ (by decide)).trans ((ju_c _ _ (by decide)).trans e4))]; omega) (fun M3 hI_M3 hH_M3 hS_M3 ht_M3 w3_0 w3_1 w3_2 => ?_)) (by decide))
          refine jr.aload_n rfl rfl ?_
          refine jr.getf (i := 117) (v := .ref 674) rfl rfl (by decide) rfl (by decide) rfl rfl rfl rfl ?_
          refine jr.lload_n rfl rfl ?_
          refine jr.l2i rfl ?_
          refine jr.iconst rfl ?_
          refine jr.iast (i := k) (x := 5) rfl (by decide) rfl (by decide) (by omega) (by omega) ?_
          refine jr.aload_n rfl rfl ?_
          refine jr.getf (i := 118) (v := .ref 675) rfl rfl (by decide) rfl (by decide) rfl rfl rfl rfl ?_
          refine jr.lload_n rfl rfl ?_
          refine jr.l2i rfl ?_
          refine jr.aload_n rfl rfl ?_
          obtain ⟨v5, e5⟩ : ∃ z, M3 598 6 = z := ⟨_, rfl⟩
          have b5 : 0 ≤ v5 ∧ v5 ≤ 12 := by rw [← e5]; exact hI_M3 598 6 (by decide)
          refine jr.getf (i := 6) (x := v5) (v := .int (Int32.ofInt (v5))) rfl rfl (by decide) rfl (by decide) rfl rfl ((ju_c _ _ (by decide)).trans e5) rfl ?_
          refine jr.iast (i := k) (x := v5) rfl (by decide) rfl (by decide) (by omega) (by omega) ?_
          refine jr.iconst rfl ?_
          refine jr.istore_n rfl (by decide) rfl ?_
          refine jr.pick [0, 2, 1] rfl rfl ?_
          exact r_list_L97 q 12 (ju (ju M3 674 k 5) 675 k v5) 0 k (RI.u (RI.u hI_M3 (a := 674) (i := k) (by rw [xri_row rfl rfl]; show (-1 : Int) ≤ _ ∧ _ ≤ (6 : Int); omega)) (a := 675) (i := k) (by rw [xri_row rfl rfl]; show (0 : Int) ≤ _ ∧ _ ≤ (40 : Int); omega)) (RH.o (RH.o hH_M3 (by decide) (by decide) (by decide)) (by decide) (by decide) (by decide)) (RF.o (RF.o hS_M3 (by decide) (by decide)) (by decide) (by decide))  (fun a i f598 f603 f604 f605 f674 f675 f677 f678 => ((ju_c _ _ f675).trans ((ju_c _ _ f674).trans ((w3_1 a i f598 f603 f604 f605).trans ((ju_c _ _ f598).trans ((ju_c _ _ f598).trans rfl)))))) (fun i g6 g10 g11 g12 g110 g135 => ((ju_c _ _ (by decide)).trans ((ju_c _ _ (by decide)).trans ((w3_2 i g6 g10 g11 g12).trans ((ju_i _ _ g110).trans ((ju_i _ _ g135).trans rfl)))))) (by omega) (by omega)  (by omega)
        · exact jr.vreturn rfl rfl (q _ (RI.u hI_M (a := 598) (i := 135) (show (0 : Int) ≤ _ ∧ _ ≤ (8 : Int) from by omega)) (RH.o hH_M (by decide) (by decide) (by decide)) (RF.o hS_M (by decide) (by decide))  (fun a i f598 f603 f604 f605 f674 f675 f677 f678 => ((ju_c _ _ f598).trans rfl)) (fun i g6 g10 g11 g12 g110 g135 => ((ju_i _ _ g135).trans rfl)))
      · refine jr.bipush rfl (by decide) ?_
        refine jr.goto rfl rfl ?_
        refine jr.putf (i := 135) (x := 8) rfl rfl (by decide) rfl (by decide) rfl rfl rfl rfl rfl ?_
        refine jr.aload_n rfl rfl ?_
        refine jr.getf (i := 135) (x := 8) (v := .int (Int32.ofInt (8))) rfl rfl (by decide) rfl (by decide) rfl rfl (ju_same _ _ _ _) rfl ?_
        refine jr.if_eq rfl rfl (by omega) (fun h54 => ?_) (fun h54 => ?_)
        · refine jr.aload_n rfl rfl ?_
          refine jr.dup rfl rfl ?_
          refine jr.getf (i := 110) (x := v2) (v := .int (Int32.ofInt (v2))) rfl rfl (by decide) rfl (by decide) rfl rfl ((ju_i _ _ (by decide)).trans e2) rfl ?_
          refine jr.iconst rfl ?_
          refine jr.iadd rfl ?_
          refine jr.putf (i := 110) (x := (v2 + 1)) rfl rfl (by decide) rfl (by decide) rfl rfl rfl rfl rfl ?_
          refine jr.aload_n rfl rfl ?_
          refine jr.aload_n rfl rfl ?_
          refine jr.getf (i := 133) (x := v1) (v := .int (Int32.ofInt (v1))) rfl rfl (by decide) rfl (by decide) rfl rfl ((ju_i _ _ (by decide)).trans ((ju_i _ _ (by decide)).trans e1)) rfl ?_
          obtain ⟨v7, e7⟩ : ∃ z, M 600 v1 = z := ⟨_, rfl⟩
          have b7 : (-1) ≤ v7 ∧ v7 ≤ 400 := by rw [← e7]; exact (by have q := hI_M 600 v1 (by decide); rw [xri_row rfl rfl] at q; exact q)
          refine jr_v rfl rfl (Or.inl rfl) rfl rfl (by decide) rfl ⟨rfl, Nat.le_of_ble_eq_true rfl, Nat.le_of_ble_eq_true rfl⟩ rfl (jc.deep (r_look (RI.u (RI.u hI_M (a := 598) (i := 135) (show (0 : Int) ≤ _ ∧ _ ≤ (8 : Int) from by omega)) (a := 598) (i := 110) (show (0 : Int) ≤ _ ∧ _ ≤ (10000 : Int) from by omega)) (RH.o (RH.o hH_M (by decide) (by decide) (by decide)) (by decide) (by decide) (by decide)) (RF.o (RF.o hS_M (by decide) (by decide)) (by decide) (by decide)) (Kp.rfl _) (by omega) (by rw [((ju_c _ _ (by decide)).trans ((ju_c _ _ (by decide)).trans e7))]; omega) (fun M6 hI_M6 hH_M6 hS_M6 ht_M6 w6_0 w6_1 w6_2 => ?_)) (by decide))
          refine jr.aload_n rfl rfl ?_
          refine jr.getf (i := 117) (v := .ref 674) rfl rfl (by decide) rfl (by decide) rfl rfl rfl rfl ?_
          refine jr.lload_n rfl rfl ?_
          refine jr.l2i rfl ?_
          refine jr.iconst rfl ?_
          refine jr.iast (i := k) (x := 5) rfl (by decide) rfl (by decide) (by omega) (by omega) ?_
          refine jr.aload_n rfl rfl ?_
          refine jr.getf (i := 118) (v := .ref 675) rfl rfl (by decide) rfl (by decide) rfl rfl rfl rfl ?_
          refine jr.lload_n rfl rfl ?_
          refine jr.l2i rfl ?_
          refine jr.aload_n rfl rfl ?_
          obtain ⟨v8, e8⟩ : ∃ z, M6 598 6 = z := ⟨_, rfl⟩
          have b8 : 0 ≤ v8 ∧ v8 ≤ 12 := by rw [← e8]; exact hI_M6 598 6 (by decide)
          refine jr.getf (i := 6) (x := v8) (v := .int (Int32.ofInt (v8))) rfl rfl (by decide) rfl (by decide) rfl rfl ((ju_c _ _ (by decide)).trans e8) rfl ?_
          refine jr.iast (i := k) (x := v8) rfl (by decide) rfl (by decide) (by omega) (by omega) ?_
          refine jr.iconst rfl ?_
          refine jr.istore_n rfl (by decide) rfl ?_
          refine jr.pick [0, 2, 1] rfl rfl ?_
          exact r_list_L97 q 12 (ju (ju M6 674 k 5) 675 k v8) 0 k (RI.u (RI.u hI_M6 (a := 674) (i := k) (by rw [xri_row rfl rfl]; show (-1 : Int) ≤ _ ∧ _ ≤ (6 : Int); omega)) (a := 675) (i := k) (by rw [xri_row rfl rfl]; show (0 : Int) ≤ _ ∧ _ ≤ (40 : Int); omega)) (RH.o (RH.o hH_M6 (by decide) (by decide) (by decide)) (by decide) (by decide) (by decide)) (RF.o (RF.o hS_M6 (by decide) (by decide)) (by decide) (by decide))  (fun a i f598 f603 f604 f605 f674 f675 f677 f678 => ((ju_c _ _ f675).trans ((ju_c _ _ f674).trans ((w6_1 a i f598 f603 f604 f605).trans ((ju_c _ _ f598).trans ((ju_c _ _ f598).trans rfl)))))) (fun i g6 g10 g11 g12 g110 g135 => ((ju_c _ _ (by decide)).trans ((ju_c _ _ (by decide)).trans ((w6_2 i g6 g10 g11 g12).trans ((ju_i _ _ g110).trans ((ju_i _ _ g135).trans rfl)))))) (by omega) (by omega)  (by omega)
        · exact jr.vreturn rfl rfl (q _ (RI.u hI_M (a := 598) (i := 135) (show (0 : Int) ≤ _ ∧ _ ≤ (8 : Int) from by omega)) (RH.o hH_M (by decide) (by decide) (by decide)) (RF.o hS_M (by decide) (by decide))  (fun a i f598 f603 f604 f605 f674 f675 f677 f678 => ((ju_c _ _ f598).trans rfl)) (fun i g6 g10 g11 g12 g110 g135 => ((ju_i _ _ g135).trans rfl)))
    · refine jr.if_ne rfl rfl (by omega) (fun h => absurd h (by decide)) (fun _ => ?_)
      refine jr.iconst rfl ?_
      refine jr.goto rfl rfl ?_
      refine jr.putf (i := 135) (x := 1) rfl rfl (by decide) rfl (by decide) rfl rfl rfl rfl rfl ?_
      refine jr.aload_n rfl rfl ?_
      refine jr.getf (i := 135) (x := 1) (v := .int (Int32.ofInt (1))) rfl rfl (by decide) rfl (by decide) rfl rfl (ju_same _ _ _ _) rfl ?_
      refine jr.if_eq rfl rfl (by omega) (fun h54 => ?_) (fun h54 => ?_)
      · refine jr.aload_n rfl rfl ?_
        refine jr.dup rfl rfl ?_
        obtain ⟨v9, e9⟩ : ∃ z, M 598 110 = z := ⟨_, rfl⟩
        have b9 : 0 ≤ v9 ∧ v9 ≤ 10000 := by rw [← e9]; exact hI_M 598 110 (by decide)
        refine jr.getf (i := 110) (x := v9) (v := .int (Int32.ofInt (v9))) rfl rfl (by decide) rfl (by decide) rfl rfl ((ju_i _ _ (by decide)).trans e9) rfl ?_
        refine jr.iconst rfl ?_
        refine jr.iadd rfl ?_
        refine jr.putf (i := 110) (x := (v9 + 1)) rfl rfl (by decide) rfl (by decide) rfl rfl rfl rfl rfl ?_
        refine jr.aload_n rfl rfl ?_
        refine jr.aload_n rfl rfl ?_
        refine jr.getf (i := 133) (x := v1) (v := .int (Int32.ofInt (v1))) rfl rfl (by decide) rfl (by decide) rfl rfl ((ju_i _ _ (by decide)).trans ((ju_i _ _ (by decide)).trans e1)) rfl ?_
        obtain ⟨v11, e11⟩ : ∃ z, M 600 v1 = z := ⟨_, rfl⟩
        have b11 : (-1) ≤ v11 ∧ v11 ≤ 400 := by rw [← e11]; exact (by have q := hI_M 600 v1 (by decide); rw [xri_row rfl rfl] at q; exact q)
        refine jr_v rfl rfl (Or.inl rfl) rfl rfl (by decide) rfl ⟨rfl, Nat.le_of_ble_eq_true rfl, Nat.le_of_ble_eq_true rfl⟩ rfl (jc.deep (r_look (RI.u (RI.u hI_M (a := 598) (i := 135) (show (0 : Int) ≤ _ ∧ _ ≤ (8 : Int) from by omega)) (a := 598) (i := 110) (show (0 : Int) ≤ _ ∧ _ ≤ (10000 : Int) from by omega)) (RH.o (RH.o hH_M (by decide) (by decide) (by decide)) (by decide) (by decide) (by decide)) (RF.o (RF.o hS_M (by decide) (by decide)) (by decide) (by decide)) (Kp.rfl _) (by omega) (by rw [((ju_c _ _ (by decide)).trans ((ju_c _ _ (by decide)).trans e11))]; omega) (fun M10 hI_M10 hH_M10 hS_M10 ht_M10 w10_0 w10_1 w10_2 => ?_)) (by decide))
        refine jr.aload_n rfl rfl ?_
        refine jr.getf (i := 117) (v := .ref 674) rfl rfl (by decide) rfl (by decide) rfl rfl rfl rfl ?_
        refine jr.lload_n rfl rfl ?_
        refine jr.l2i rfl ?_
        refine jr.iconst rfl ?_
        refine jr.iast (i := k) (x := 5) rfl (by decide) rfl (by decide) (by omega) (by omega) ?_
        refine jr.aload_n rfl rfl ?_
        refine jr.getf (i := 118) (v := .ref 675) rfl rfl (by decide) rfl (by decide) rfl rfl rfl rfl ?_
        refine jr.lload_n rfl rfl ?_
        refine jr.l2i rfl ?_
        refine jr.aload_n rfl rfl ?_
        obtain ⟨v12, e12⟩ : ∃ z, M10 598 6 = z := ⟨_, rfl⟩
        have b12 : 0 ≤ v12 ∧ v12 ≤ 12 := by rw [← e12]; exact hI_M10 598 6 (by decide)
        refine jr.getf (i := 6) (x := v12) (v := .int (Int32.ofInt (v12))) rfl rfl (by decide) rfl (by decide) rfl rfl ((ju_c _ _ (by decide)).trans e12) rfl ?_
        refine jr.iast (i := k) (x := v12) rfl (by decide) rfl (by decide) (by omega) (by omega) ?_
        refine jr.iconst rfl ?_
        refine jr.istore_n rfl (by decide) rfl ?_
        refine jr.pick [0, 2, 1] rfl rfl ?_
        exact r_list_L97 q 12 (ju (ju M10 674 k 5) 675 k v12) 0 k (RI.u (RI.u hI_M10 (a := 674) (i := k) (by rw [xri_row rfl rfl]; show (-1 : Int) ≤ _ ∧ _ ≤ (6 : Int); omega)) (a := 675) (i := k) (by rw [xri_row rfl rfl]; show (0 : Int) ≤ _ ∧ _ ≤ (40 : Int); omega)) (RH.o (RH.o hH_M10 (by decide) (by decide) (by decide)) (by decide) (by decide) (by decide)) (RF.o (RF.o hS_M10 (by decide) (by decide)) (by decide) (by decide))  (fun a i f598 f603 f604 f605 f674 f675 f677 f678 => ((ju_c _ _ f675).trans ((ju_c _ _ f674).trans ((w10_1 a i f598 f603 f604 f605).trans ((ju_c _ _ f598).trans ((ju_c _ _ f598).trans rfl)))))) (fun i g6 g10 g11 g12 g110 g135 => ((ju_c _ _ (by decide)).trans ((ju_c _ _ (by decide)).trans ((w10_2 i g6 g10 g11 g12).trans ((ju_i _ _ g110).trans ((ju_i _ _ g135).trans rfl)))))) (by omega) (by omega)  (by omega)
      · exact jr.vreturn rfl rfl (q _ (RI.u hI_M (a := 598) (i := 135) (show (0 : Int) ≤ _ ∧ _ ≤ (8 : Int) from by omega)) (RH.o hH_M (by decide) (by decide) (by decide)) (RF.o hS_M (by decide) (by decide))  (fun a i f598 f603 f604 f605 f674 f675 f677 f678 => ((ju_c _ _ f598).trans rfl)) (fun i g6 g10 g11 g12 g110 g135 => ((ju_i _ _ g135).trans rfl)))
  · refine jr.if_ne rfl rfl (by omega) (fun h => absurd h (by decide)) (fun _ => ?_)
    refine jr.iconst rfl ?_
    refine jr.goto rfl rfl ?_
    refine jr.putf (i := 135) (x := 2) rfl rfl (by decide) rfl (by decide) rfl rfl rfl rfl rfl ?_
    refine jr.aload_n rfl rfl ?_
    refine jr.getf (i := 135) (x := 2) (v := .int (Int32.ofInt (2))) rfl rfl (by decide) rfl (by decide) rfl rfl (ju_same _ _ _ _) rfl ?_
    refine jr.if_eq rfl rfl (by omega) (fun h54 => ?_) (fun h54 => ?_)
    · refine jr.aload_n rfl rfl ?_
      refine jr.dup rfl rfl ?_
      obtain ⟨v13, e13⟩ : ∃ z, M 598 110 = z := ⟨_, rfl⟩
      have b13 : 0 ≤ v13 ∧ v13 ≤ 10000 := by rw [← e13]; exact hI_M 598 110 (by decide)
      refine jr.getf (i := 110) (x := v13) (v := .int (Int32.ofInt (v13))) rfl rfl (by decide) rfl (by decide) rfl rfl ((ju_i _ _ (by decide)).trans e13) rfl ?_
      refine jr.iconst rfl ?_
      refine jr.iadd rfl ?_
      refine jr.putf (i := 110) (x := (v13 + 1)) rfl rfl (by decide) rfl (by decide) rfl rfl rfl rfl rfl ?_
      refine jr.aload_n rfl rfl ?_
      refine jr.aload_n rfl rfl ?_
      obtain ⟨v14, e14⟩ : ∃ z, M 598 133 = z := ⟨_, rfl⟩
      have b14 : 0 ≤ v14 ∧ v14 ≤ 23 := by rw [← e14]; exact hI_M 598 133 (by decide)
      refine jr.getf (i := 133) (x := v14) (v := .int (Int32.ofInt (v14))) rfl rfl (by decide) rfl (by decide) rfl rfl ((ju_i _ _ (by decide)).trans ((ju_i _ _ (by decide)).trans e14)) rfl ?_
      obtain ⟨v16, e16⟩ : ∃ z, M 600 v14 = z := ⟨_, rfl⟩
      have b16 : (-1) ≤ v16 ∧ v16 ≤ 400 := by rw [← e16]; exact (by have q := hI_M 600 v14 (by decide); rw [xri_row rfl rfl] at q; exact q)
      refine jr_v rfl rfl (Or.inl rfl) rfl rfl (by decide) rfl ⟨rfl, Nat.le_of_ble_eq_true rfl, Nat.le_of_ble_eq_true rfl⟩ rfl (jc.deep (r_look (RI.u (RI.u hI_M (a := 598) (i := 135) (show (0 : Int) ≤ _ ∧ _ ≤ (8 : Int) from by omega)) (a := 598) (i := 110) (show (0 : Int) ≤ _ ∧ _ ≤ (10000 : Int) from by omega)) (RH.o (RH.o hH_M (by decide) (by decide) (by decide)) (by decide) (by decide) (by decide)) (RF.o (RF.o hS_M (by decide) (by decide)) (by decide) (by decide)) (Kp.rfl _) (by omega) (by rw [((ju_c _ _ (by decide)).trans ((ju_c _ _ (by decide)).trans e16))]; omega) (fun M15 hI_M15 hH_M15 hS_M15 ht_M15 w15_0 w15_1 w15_2 => ?_)) (by decide))
      refine jr.aload_n rfl rfl ?_
      refine jr.getf (i := 117) (v := .ref 674) rfl rfl (by decide) rfl (by decide) rfl rfl rfl rfl ?_
      refine jr.lload_n rfl rfl ?_
      refine jr.l2i rfl ?_
      refine jr.iw (j_w k) (j_w_eq _) ?_
      have b17 : -2147483648 ≤ j_w k ∧ j_w k ≤ 2147483647 := jb_any _
      generalize j_w k = v17 at b17 ⊢
      refine jr.iconst rfl ?_
      refine jr.iast (i := v17) (x := 5) rfl (by decide) rfl (by decide) (by omega) (by omega) ?_
      refine jr.aload_n rfl rfl ?_
      refine jr.getf (i := 118) (v := .ref 675) rfl rfl (by decide) rfl (by decide) rfl rfl rfl rfl ?_
      refine jr.lload_n rfl rfl ?_
      refine jr.l2i rfl ?_
      refine jr.iw (j_w k) (j_w_eq _) ?_
      have b18 : -2147483648 ≤ j_w k ∧ j_w k ≤ 2147483647 := jb_any _
      generalize j_w k = v18 at b18 ⊢
      refine jr.aload_n rfl rfl ?_
      obtain ⟨v19, e19⟩ : ∃ z, M15 598 6 = z := ⟨_, rfl⟩
      have b19 : 0 ≤ v19 ∧ v19 ≤ 12 := by rw [← e19]; exact hI_M15 598 6 (by decide)
      refine jr.getf (i := 6) (x := v19) (v := .int (Int32.ofInt (v19))) rfl rfl (by decide) rfl (by decide) rfl rfl ((ju_c _ _ (by decide)).trans e19) rfl ?_
      refine jr.iast (i := v18) (x := v19) rfl (by decide) rfl (by decide) (by omega) (by omega) ?_
      refine jr.iconst rfl ?_
      refine jr.istore_n rfl (by decide) rfl ?_
      refine jr.pick [0, 2, 1] rfl rfl ?_
      exact r_list_L97 q 12 (ju (ju M15 674 v17 5) 675 v18 v19) 0 k (RI.u (RI.u hI_M15 (a := 674) (i := v17) (by rw [xri_row rfl rfl]; show (-1 : Int) ≤ _ ∧ _ ≤ (6 : Int); omega)) (a := 675) (i := v18) (by rw [xri_row rfl rfl]; show (0 : Int) ≤ _ ∧ _ ≤ (40 : Int); omega)) (RH.o (RH.o hH_M15 (by decide) (by decide) (by decide)) (by decide) (by decide) (by decide)) (RF.o (RF.o hS_M15 (by decide) (by decide)) (by decide) (by decide))  (fun a i f598 f603 f604 f605 f674 f675 f677 f678 => ((ju_c _ _ f675).trans ((ju_c _ _ f674).trans ((w15_1 a i f598 f603 f604 f605).trans ((ju_c _ _ f598).trans ((ju_c _ _ f598).trans rfl)))))) (fun i g6 g10 g11 g12 g110 g135 => ((ju_c _ _ (by decide)).trans ((ju_c _ _ (by decide)).trans ((w15_2 i g6 g10 g11 g12).trans ((ju_i _ _ g110).trans ((ju_i _ _ g135).trans rfl)))))) (by omega) (by omega)  (by omega)
    · exact jr.vreturn rfl rfl (q _ (RI.u hI_M (a := 598) (i := 135) (show (0 : Int) ≤ _ ∧ _ ≤ (8 : Int) from by omega)) (RH.o hH_M (by decide) (by decide) (by decide)) (RF.o hS_M (by decide) (by decide))  (fun a i f598 f603 f604 f605 f674 f675 f677 f678 => ((ju_c _ _ f598).trans rfl)) (fun i g6 g10 g11 g12 g110 g135 => ((ju_i _ _ g135).trans rfl)))
