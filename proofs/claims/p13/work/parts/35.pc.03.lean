theorem r_exp_L11 {A : Nat → Option (Nat × (Nat → Int32))} {Q : Option Value → jm → Prop} {b kk : Int} {M0 : jm} (q : ∀ (M' : jm), RI M' → RH M' → RF M' → (BS M' ∨ (SS M' (b + 1) kk ∧ TK M' < TK M0)) → TK M' ≤ TK M0 → M' 598 73 ≤ M' 598 72 → (M' 598 80 ≠ 0 ∨ TK M' < TK M0) → CP M0 M' → M0 598 89 ≤ M' 598 89 → (∀ (a : Nat) (i : Int), a ≠ 598 → a ≠ 659 → a ≠ 660 → a ≠ 664 → a ≠ 665 → a ≠ 666 → a ≠ 667 → M' a i = M0 a i) → (∀ (i : Int), i ≠ 73 → i ≠ 74 → i ≠ 75 → i ≠ 76 → i ≠ 77 → i ≠ 78 → i ≠ 79 → i ≠ 80 → i ≠ 81 → i ≠ 89 → i ≠ 90 → i ≠ 100 → i ≠ 102 → M' 598 i = M0 598 i) → Q none M') : ∀ (nM : Nat) (M : jm) (o : Int) (m : Int), RI M → RH M → RF M → (∀ (a : Nat) (i : Int), a ≠ 598 → a ≠ 659 → a ≠ 660 → a ≠ 664 → a ≠ 665 → a ≠ 666 → a ≠ 667 → M a i = M0 a i) → (∀ (i : Int), i ≠ 73 → i ≠ 74 → i ≠ 75 → i ≠ 76 → i ≠ 77 → i ≠ 78 → i ≠ 79 → i ≠ 80 → i ≠ 81 → i ≠ 89 → i ≠ 90 → i ≠ 100 → i ≠ 102 → M 598 i = M0 598 i) → 0 ≤ o ∧ o ≤ 1 → 390 ≤ m ∧ m ≤ 390 → (BS M ∨ GS M b (1 - o) kk) → (TK M < TK M0 ∨ o = 1 ∨ M 598 80 ≠ 0) → TK M ≤ TK M0 → M 598 73 ≤ M 598 72 → 0 ≤ b ∧ b ≤ 4 → CP M0 M → M0 598 89 ≤ M 598 89 → TK M + 1 - min 1 (M 598 80) ≤ nM → jr A 6 xm_364 11 [(2, .int (Int32.ofInt (o))), (1, .int (Int32.ofInt (m))), (0, .ref (598))] [] M Q := by
  intro nM
  induction nM using Nat.strongRecOn with
  | ind nM ih =>
    intro M o m hI_M hH_M hS_M hF_M hG_M h_o h_m hy0 hy1 hy2 hy3 hy4 hy5 hy6 hm
    have hCP := hy5
    refine jr.aload_n rfl rfl ?_
    refine jr_v rfl rfl (Or.inl rfl) rfl rfl (by decide) rfl ⟨rfl, Nat.le_of_ble_eq_true rfl, Nat.le_of_ble_eq_true rfl⟩ rfl (jc.deep (c_good hI_M  (fun t12_0 => ?_) (fun f12_0 => ?_)) (by decide))
    · have gs := hy0.resolve_left (fun z => z.1 t12_0)
      obtain ⟨gs1, gs2, gs3, gs4, gs5, gs6⟩ := id gs
      have hE := gs2
      have sl := ES.sgle gs2
      have kb := ES.kz gs2
      have bM_107 : (0 : Int) ≤ M 598 107 ∧ M 598 107 ≤ 16 := hI_M 598 107 (by decide)
      have bM_73 : (0 : Int) ≤ M 598 73 ∧ M 598 73 ≤ 1600 := hI_M 598 73 (by decide)
      have bM_88 : (0 : Int) ≤ M 598 88 ∧ M 598 88 ≤ 16 := hI_M 598 88 (by decide)
      have bM_100 : (0 : Int) ≤ M 598 100 ∧ M 598 100 ≤ 13 := hI_M 598 100 (by decide)
      have b74 : (0 : Int) ≤ M 598 74 ∧ M 598 74 ≤ 4 := hI_M 598 74 (by decide)
      have tg := TK.ge (M := M) (by omega) (by omega)
      refine jr.if_eq rfl rfl (by omega) (fun h => absurd h (by decide)) (fun _ => ?_)
      refine jr.aload_n rfl rfl ?_
      obtain ⟨v1, e1⟩ : ∃ z, M 598 102 = z := ⟨_, rfl⟩
      have b1 : 0 ≤ v1 ∧ v1 ≤ 400 := by rw [← e1]; exact hI_M 598 102 (by decide)
      refine jr.getf (i := 102) (x := v1) (v := .int (Int32.ofInt (v1))) rfl rfl (by decide) rfl (by decide) rfl rfl e1 rfl ?_
      refine jr.iload_n rfl rfl ?_
      refine jr.icmp_ge rfl rfl (by omega) (by omega) (fun h => absurd h (by omega)) (fun h23 => ?_)
      refine jr.iload_n rfl rfl ?_
      refine jr.if_eq rfl rfl (by omega) (fun h27 => ?_) (fun h27 => ?_)
      · refine jr.aload_n rfl rfl ?_
        refine jr.bipush rfl (by decide) ?_
        refine jr_v rfl rfl (Or.inl rfl) rfl rfl (by decide) rfl ⟨rfl, Nat.le_of_ble_eq_true rfl, Nat.le_of_ble_eq_true rfl⟩ rfl (jc.deep (r_reduce hI_M hH_M hS_M  (by omega) (GS.cast gs (by omega)) (fun M2 hI_M2 hH_M2 hS_M2  w2_0 w2_1 w2_2 w2_3 w2_4 w2_5 => ?_)) (by decide))
        have tk2 : TK M2 = TK M := TK.fr (w2_5 73 (by decide) (by decide) (by decide)) (w2_5 74 (by decide) (by decide) (by decide))
        refine jr.aload_n rfl rfl ?_
        obtain ⟨v4, e4⟩ : ∃ z, M 598 89 = z := ⟨_, rfl⟩
        have b4 : 0 ≤ v4 ∧ v4 ≤ 301 := by rw [← e4]; exact hI_M 598 89 (by decide)
        have e5 : M2 598 89 = v4 := ((w2_5 89 (by decide) (by decide) (by decide)).trans e4)
        refine jr_v rfl rfl (Or.inl rfl) rfl rfl (by decide) rfl ⟨rfl, Nat.le_of_ble_eq_true rfl, Nat.le_of_ble_eq_true rfl⟩ rfl (jc.deep (r_takeSign hI_M2 hH_M2 hS_M2   w2_0 (fun r3 M3 hI_M3 hH_M3 hS_M3  z3 w3_0 w3_1 w3_2 w3_3 w3_4 w3_5 w3_6 w3_7 => ?_)) (by decide))
        refine jr.if_eq rfl rfl (by omega) (fun h56 => ?_) (fun h56 => ?_)
        · obtain ⟨v6, e6⟩ : ∃ z, M3 598 89 = z := ⟨_, rfl⟩
          have b6 : 0 ≤ v6 ∧ v6 ≤ 301 := by rw [← e6]; exact hI_M3 598 89 (by decide)
          refine jr.pick (ls := [_, _, _]) [0, 1, 2] rfl rfl ?_
          exact r_exp_L64 q (nM - 1) (ih (nM - 1) (by omega)) M3 o m hI_M3 hH_M3 hS_M3  (fun a i f598 f659 f660 f664 f665 f666 f667 => ((w3_6 a i f598 f659 f660 f664 f665 f666 f667).trans ((w2_4 a i f598 f659 f660).trans (hF_M a i f598 f659 f660 f664 f665 f666 f667)))) (fun i g73 g74 g75 g76 g77 g78 g79 g80 g81 g89 g90 g100 g102 => ((w3_7 i g73 g74 g75 g76 g77 g78 g79 g80 g81 g89 g90 g100 g102).trans ((w2_5 i g90 g100 g102).trans (hG_M i g73 g74 g75 g76 g77 g78 g79 g80 g81 g89 g90 g100 g102)))) (by omega) (by omega) (by rcases w3_0 with z | z; (exact z.2); (exfalso; omega)) (by omega) (by omega) (by omega) (by omega) (CP.trans (CP.trans hCP w2_3) w3_4) (by rw [e6] <;> omega)
        · have sx56 : (1 : Int) ≤ r3 := by omega
          clear h56
          refine jr.iconst rfl ?_
          refine jr.istore_n (ls' := [_, _, _]) rfl (by decide) rfl ?_
          refine jr.goto rfl rfl ?_
          obtain ⟨v7, e7⟩ : ∃ z, M3 598 80 = z := ⟨_, rfl⟩
          have b7 : 0 ≤ v7 ∧ v7 ≤ 7 := by rw [← e7]; exact hI_M3 598 80 (by decide)
          have y8 : M3 598 80 = v7 := e7
          obtain ⟨v9, e9⟩ : ∃ z, M3 598 73 = z := ⟨_, rfl⟩
          have b9 : 0 ≤ v9 ∧ v9 ≤ 1600 := by rw [← e9]; exact hI_M3 598 73 (by decide)
          obtain ⟨v10, e10⟩ : ∃ z, M 598 72 = z := ⟨_, rfl⟩
          have b10 : 0 ≤ v10 ∧ v10 ≤ 1600 := by rw [← e10]; exact hI_M 598 72 (by decide)
          have e11 : M2 598 72 = v10 := ((w2_5 72 (by decide) (by decide) (by decide)).trans e10)
          have e12 : M3 598 72 = v10 := ((w3_7 72 (by decide) (by decide) (by decide) (by decide) (by decide) (by decide) (by decide) (by decide) (by decide) (by decide) (by decide) (by decide) (by decide)).trans e11)
          obtain ⟨v13, e13⟩ : ∃ z, M3 598 89 = z := ⟨_, rfl⟩
          have b13 : 0 ≤ v13 ∧ v13 ≤ 301 := by rw [← e13]; exact hI_M3 598 89 (by decide)
          refine jr.pick (ls := [_, _, _]) [0, 1, 2] rfl rfl ?_
          have y14 : M3 598 80 = v7 := e7
          exact ih (nM - 1) (by omega) M3 1 m hI_M3 hH_M3 hS_M3  (fun a i f598 f659 f660 f664 f665 f666 f667 => ((w3_6 a i f598 f659 f660 f664 f665 f666 f667).trans ((w2_4 a i f598 f659 f660).trans (hF_M a i f598 f659 f660 f664 f665 f666 f667)))) (fun i g73 g74 g75 g76 g77 g78 g79 g80 g81 g89 g90 g100 g102 => ((w3_7 i g73 g74 g75 g76 g77 g78 g79 g80 g81 g89 g90 g100 g102).trans ((w2_5 i g90 g100 g102).trans (hG_M i g73 g74 g75 g76 g77 g78 g79 g80 g81 g89 g90 g100 g102)))) (by omega) (by omega) (by rcases w3_0 with z | z; (exfalso; omega); exact z.2.imp id (fun y => GS.cast y.1 (by omega))) (by omega) (by omega) (by rw [e9, e12] <;> omega) (by omega) (CP.trans (CP.trans hCP w2_3) w3_4) (by rw [e13] <;> omega) (by omega)
      · have sx27 : (1 : Int) ≤ o := by omega
        clear h27
        refine jr.aload_n rfl rfl ?_
        refine jr_v rfl rfl (Or.inl rfl) rfl rfl (by decide) rfl ⟨rfl, Nat.le_of_ble_eq_true rfl, Nat.le_of_ble_eq_true rfl⟩ rfl (jc.deep (r_takeOperand hI_M hH_M hS_M   (GS.cast gs (by omega)) (fun r15 M15 hI_M15 hH_M15 hS_M15  z15 w15_0 w15_1 w15_2 w15_3 w15_4 w15_5 w15_6 w15_7 => ?_)) (by decide))
        refine jr.if_ne rfl rfl (by omega) (fun h34 => ?_) (fun h34 => ?_)
        · have sx34 : (1 : Int) ≤ r15 := by omega
          clear h34
          refine jr.iconst rfl ?_
          refine jr.istore_n (ls' := [_, _, _]) rfl (by decide) rfl ?_
          refine jr.goto rfl rfl ?_
          obtain ⟨v16, e16⟩ : ∃ z, M15 598 80 = z := ⟨_, rfl⟩
          have b16 : 0 ≤ v16 ∧ v16 ≤ 7 := by rw [← e16]; exact hI_M15 598 80 (by decide)
          have y17 : M15 598 80 = v16 := e16
          obtain ⟨v18, e18⟩ : ∃ z, M15 598 73 = z := ⟨_, rfl⟩
          have b18 : 0 ≤ v18 ∧ v18 ≤ 1600 := by rw [← e18]; exact hI_M15 598 73 (by decide)
          obtain ⟨v19, e19⟩ : ∃ z, M 598 72 = z := ⟨_, rfl⟩
          have b19 : 0 ≤ v19 ∧ v19 ≤ 1600 := by rw [← e19]; exact hI_M 598 72 (by decide)
          have e20 : M15 598 72 = v19 := ((w15_7 72 (by decide) (by decide) (by decide) (by decide) (by decide) (by decide) (by decide) (by decide) (by decide) (by decide) (by decide) (by decide) (by decide)).trans e19)
          obtain ⟨v21, e21⟩ : ∃ z, M15 598 89 = z := ⟨_, rfl⟩
          have b21 : 0 ≤ v21 ∧ v21 ≤ 301 := by rw [← e21]; exact hI_M15 598 89 (by decide)
          refine jr.pick (ls := [_, _, _]) [0, 1, 2] rfl rfl ?_
          have y22 : M15 598 80 = v16 := e16
          exact ih (nM - 1) (by omega) M15 0 m hI_M15 hH_M15 hS_M15  (fun a i f598 f659 f660 f664 f665 f666 f667 => ((w15_6 a i f598 f659 f660 f664 f666 f667).trans (hF_M a i f598 f659 f660 f664 f665 f666 f667))) (fun i g73 g74 g75 g76 g77 g78 g79 g80 g81 g89 g90 g100 g102 => ((w15_7 i g73 g74 g75 g76 g77 g78 g79 g80 g81 g89 g90 g100 g102).trans (hG_M i g73 g74 g75 g76 g77 g78 g79 g80 g81 g89 g90 g100 g102))) (by omega) (by omega) (w15_0.imp id (fun z => GS.cast z.1 (by omega))) (by omega) (by omega) (by rw [e18, e20] <;> omega) (by omega) (CP.trans hCP w15_4) (by rw [e21] <;> omega) (by omega)
        · refine jr.iconst rfl ?_
          refine jr.goto rfl rfl ?_
          refine jr.istore_n (ls' := [_, _, _]) rfl (by decide) rfl ?_
          refine jr.goto rfl rfl ?_
          obtain ⟨v23, e23⟩ : ∃ z, M15 598 80 = z := ⟨_, rfl⟩
          have b23 : 0 ≤ v23 ∧ v23 ≤ 7 := by rw [← e23]; exact hI_M15 598 80 (by decide)
          have y24 : M15 598 80 = v23 := e23
          obtain ⟨v25, e25⟩ : ∃ z, M15 598 73 = z := ⟨_, rfl⟩
          have b25 : 0 ≤ v25 ∧ v25 ≤ 1600 := by rw [← e25]; exact hI_M15 598 73 (by decide)
          obtain ⟨v26, e26⟩ : ∃ z, M 598 72 = z := ⟨_, rfl⟩
          have b26 : 0 ≤ v26 ∧ v26 ≤ 1600 := by rw [← e26]; exact hI_M 598 72 (by decide)
          have e27 : M15 598 72 = v26 := ((w15_7 72 (by decide) (by decide) (by decide) (by decide) (by decide) (by decide) (by decide) (by decide) (by decide) (by decide) (by decide) (by decide) (by decide)).trans e26)
          obtain ⟨v28, e28⟩ : ∃ z, M15 598 89 = z := ⟨_, rfl⟩
          have b28 : 0 ≤ v28 ∧ v28 ≤ 301 := by rw [← e28]; exact hI_M15 598 89 (by decide)
          refine jr.pick (ls := [_, _, _]) [0, 1, 2] rfl rfl ?_
          have y29 : M15 598 80 = v23 := e23
          exact ih (nM - 1) (by omega) M15 1 m hI_M15 hH_M15 hS_M15  (fun a i f598 f659 f660 f664 f665 f666 f667 => ((w15_6 a i f598 f659 f660 f664 f666 f667).trans (hF_M a i f598 f659 f660 f664 f665 f666 f667))) (fun i g73 g74 g75 g76 g77 g78 g79 g80 g81 g89 g90 g100 g102 => ((w15_7 i g73 g74 g75 g76 g77 g78 g79 g80 g81 g89 g90 g100 g102).trans (hG_M i g73 g74 g75 g76 g77 g78 g79 g80 g81 g89 g90 g100 g102))) (by omega) (by omega) (w15_0.imp id (fun z => GS.cast z.1 (by omega))) (by omega) (by omega) (by rw [e25, e27] <;> omega) (by omega) (CP.trans hCP w15_4) (by rw [e28] <;> omega) (by omega)
    · refine jr.if_eq rfl rfl (by omega) (fun _ => ?_) (fun h => absurd (by decide) h)
      exact jr.vreturn rfl rfl (q _ hI_M hH_M hS_M  (Or.inl (hy0.resolve_right (fun z => f12_0 z.1))) (by omega) (by omega) (by omega) hCP (by omega) (fun a i f598 f659 f660 f664 f665 f666 f667 => (hF_M a i f598 f659 f660 f664 f665 f666 f667)) (fun i g73 g74 g75 g76 g77 g78 g79 g80 g81 g89 g90 g100 g102 => (hG_M i g73 g74 g75 g76 g77 g78 g79 g80 g81 g89 g90 g100 g102)))
