theorem r_deed_L188 {A : Nat → Option (Nat × (Nat → Int32))} {Q : Option Value → jm → Prop} {M0 : jm} (q : ∀ (M' : jm), RI M' → RH M' → RF M' → (BT M' ∨ (DS M' 0 ∧ TK M' < TK M0)) → TK M' ≤ TK M0 → M' 598 73 ≤ M' 598 72 → (M' 598 80 ≠ 0 ∨ TK M' < TK M0) → M0 598 107 ≤ M' 598 107 → (∀ (a : Nat) (i : Int), a ≠ 598 → a ≠ 659 → a ≠ 660 → a ≠ 661 → a ≠ 662 → a ≠ 663 → a ≠ 664 → a ≠ 665 → a ≠ 666 → a ≠ 667 → a ≠ 668 → a ≠ 669 → M' a i = M0 a i) → (∀ (i : Int), i ≠ 73 → i ≠ 74 → i ≠ 75 → i ≠ 76 → i ≠ 77 → i ≠ 78 → i ≠ 79 → i ≠ 80 → i ≠ 81 → i ≠ 89 → i ≠ 90 → i ≠ 96 → i ≠ 100 → i ≠ 102 → i ≠ 107 → M' 598 i = M0 598 i) → Q none M') : ∀ (nM : Nat) (M : jm) (k : Int) (w : Int), RI M → RH M → RF M → (∀ (a : Nat) (i : Int), a ≠ 598 → a ≠ 659 → a ≠ 660 → a ≠ 661 → a ≠ 662 → a ≠ 663 → a ≠ 664 → a ≠ 665 → a ≠ 666 → a ≠ 667 → a ≠ 668 → a ≠ 669 → M a i = M0 a i) → (∀ (i : Int), i ≠ 73 → i ≠ 74 → i ≠ 75 → i ≠ 76 → i ≠ 77 → i ≠ 78 → i ≠ 79 → i ≠ 80 → i ≠ 81 → i ≠ 89 → i ≠ 90 → i ≠ 96 → i ≠ 100 → i ≠ 102 → i ≠ 107 → M 598 i = M0 598 i) → 0 ≤ k ∧ k ≤ 5 → 10 ≤ w ∧ w ≤ 18 → (BS M ∨ (SS M k (0 + 2 + 2) ∧ AK M ∧ M 598 96 ≤ M 598 89)) → M 598 73 ≤ M 598 72 → TK M ≤ TK M0 → (M 598 80 ≠ 0 ∨ TK M < TK M0) → M 598 107 = M0 598 107 → 1 ≤ M 598 88 → k ≤ ndo (20 + w) → M 598 107 ≤ 12 → 5 - k ≤ nM → jr A 7 xm_367 188 [(3, .int (Int32.ofInt (k))), (1, .int (Int32.ofInt (w))), (0, .ref (598))] [] M Q := by
  intro nM
  induction nM using Nat.strongRecOn with
  | ind nM ih =>
    intro M k w hI_M hH_M hS_M hF_M hG_M h_k h_w hy0 hy1 hy2 hy3 hy4 hy5 hy6 hy7 hm
    rcases hy0 with zb | zg
    · obtain ⟨za, zc⟩ := zb
      refine jr.iload_n rfl rfl ?_
      refine jr.iload_n rfl rfl ?_
      refine jr_s rfl rfl (Or.inl rfl) ⟨Nat.le_of_ble_eq_true rfl, Nat.le_of_ble_eq_true rfl⟩ rfl rfl (jc.deep (r_exps hI_M hH_M hS_M (Kp.rfl _) (by omega)  (fun r1 z1 w1_0 => ?_)) (by decide))
      refine jr.icmp_ge rfl rfl (by omega) (by omega) (fun h193 => ?_) (fun h193 => ?_)
      · obtain ⟨v2, e2⟩ : ∃ z, M 598 80 = z := ⟨_, rfl⟩
        have b2 : 0 ≤ v2 ∧ v2 ≤ 7 := by rw [← e2]; exact hI_M 598 80 (by decide)
        have y3 : M 598 80 = v2 := e2
        obtain ⟨v4, e4⟩ : ∃ z, M 598 90 = z := ⟨_, rfl⟩
        have b4 : 0 ≤ v4 ∧ v4 ≤ 2200 := by rw [← e4]; exact hI_M 598 90 (by decide)
        have y5 : M 598 90 = v4 := e4
        obtain ⟨v6, e6⟩ : ∃ z, M 598 73 = z := ⟨_, rfl⟩
        have b6 : 0 ≤ v6 ∧ v6 ≤ 1600 := by rw [← e6]; exact hI_M 598 73 (by decide)
        obtain ⟨v7, e7⟩ : ∃ z, M 598 72 = z := ⟨_, rfl⟩
        have b7 : 0 ≤ v7 ∧ v7 ≤ 1600 := by rw [← e7]; exact hI_M 598 72 (by decide)
        obtain ⟨v8, e8⟩ : ∃ z, M 598 107 = z := ⟨_, rfl⟩
        have b8 : 0 ≤ v8 ∧ v8 ≤ 16 := by rw [← e8]; exact hI_M 598 107 (by decide)
        obtain ⟨v9, e9⟩ : ∃ z, M 598 88 = z := ⟨_, rfl⟩
        have b9 : 0 ≤ v9 ∧ v9 ≤ 16 := by rw [← e9]; exact hI_M 598 88 (by decide)
        refine jr.pick (ls := [_, _]) [1, 2] rfl rfl ?_
        exact r_deed_L230 q M w hI_M hH_M hS_M  (fun a i f598 f659 f660 f661 f662 f663 f664 f665 f666 f667 f668 f669 => (hF_M a i f598 f659 f660 f661 f662 f663 f664 f665 f666 f667 f668 f669)) (fun i g73 g74 g75 g76 g77 g78 g79 g80 g81 g89 g90 g96 g100 g102 g107 => (hG_M i g73 g74 g75 g76 g77 g78 g79 g80 g81 g89 g90 g96 g100 g102 g107)) (by omega) (Or.inl ⟨by omega, by omega⟩) (by rw [e6, e7] <;> omega) (by omega) (by omega) (by rw [e8] <;> omega) (by rw [e9] <;> omega) (by rw [e8] <;> omega)
      · refine jr.aload_n rfl rfl ?_
        obtain ⟨v10, e10⟩ : ∃ z, M 598 80 = z := ⟨_, rfl⟩
        have b10 : 0 ≤ v10 ∧ v10 ≤ 7 := by rw [← e10]; exact hI_M 598 80 (by decide)
        refine jr_v rfl rfl (Or.inl rfl) rfl rfl (by decide) rfl ⟨rfl, Nat.le_of_ble_eq_true rfl, Nat.le_of_ble_eq_true rfl⟩ rfl (jc.deep (c_good hI_M  (fun t197_0 => ?_) (fun f197_0 => ?_)) (by decide))
        · exfalso
          omega
        · refine jr.if_eq rfl rfl (by omega) (fun _ => ?_) (fun h => absurd (by decide) h)
          have y11 : M 598 80 = v10 := e10
          obtain ⟨v12, e12⟩ : ∃ z, M 598 90 = z := ⟨_, rfl⟩
          have b12 : 0 ≤ v12 ∧ v12 ≤ 2200 := by rw [← e12]; exact hI_M 598 90 (by decide)
          have y13 : M 598 90 = v12 := e12
          obtain ⟨v14, e14⟩ : ∃ z, M 598 73 = z := ⟨_, rfl⟩
          have b14 : 0 ≤ v14 ∧ v14 ≤ 1600 := by rw [← e14]; exact hI_M 598 73 (by decide)
          obtain ⟨v15, e15⟩ : ∃ z, M 598 72 = z := ⟨_, rfl⟩
          have b15 : 0 ≤ v15 ∧ v15 ≤ 1600 := by rw [← e15]; exact hI_M 598 72 (by decide)
          obtain ⟨v16, e16⟩ : ∃ z, M 598 107 = z := ⟨_, rfl⟩
          have b16 : 0 ≤ v16 ∧ v16 ≤ 16 := by rw [← e16]; exact hI_M 598 107 (by decide)
          obtain ⟨v17, e17⟩ : ∃ z, M 598 88 = z := ⟨_, rfl⟩
          have b17 : 0 ≤ v17 ∧ v17 ≤ 16 := by rw [← e17]; exact hI_M 598 88 (by decide)
          refine jr.pick (ls := [_, _]) [1, 2] rfl rfl ?_
          exact r_deed_L230 q M w hI_M hH_M hS_M  (fun a i f598 f659 f660 f661 f662 f663 f664 f665 f666 f667 f668 f669 => (hF_M a i f598 f659 f660 f661 f662 f663 f664 f665 f666 f667 f668 f669)) (fun i g73 g74 g75 g76 g77 g78 g79 g80 g81 g89 g90 g96 g100 g102 g107 => (hG_M i g73 g74 g75 g76 g77 g78 g79 g80 g81 g89 g90 g96 g100 g102 g107)) (by omega) (Or.inl ⟨by omega, by omega⟩) (by rw [e14, e15] <;> omega) (by omega) (by omega) (by rw [e16] <;> omega) (by rw [e17] <;> omega) (by rw [e16] <;> omega)
    · obtain ⟨⟨sa, hX, sc, sd, se, sf⟩, hA, sk⟩ := zg
      have dpx := XS.dep hX
      have sl := XS.sgle hX
      have bM_107 : (0 : Int) ≤ M 598 107 ∧ M 598 107 ≤ 16 := hI_M 598 107 (by decide)
      have bM_73 : (0 : Int) ≤ M 598 73 ∧ M 598 73 ≤ 1600 := hI_M 598 73 (by decide)
      have bM_88 : (0 : Int) ≤ M 598 88 ∧ M 598 88 ≤ 16 := hI_M 598 88 (by decide)
      have bM_100 : (0 : Int) ≤ M 598 100 ∧ M 598 100 ≤ 13 := hI_M 598 100 (by decide)
      refine jr.iload_n rfl rfl ?_
      refine jr.iload_n rfl rfl ?_
      refine jr_s rfl rfl (Or.inl rfl) ⟨Nat.le_of_ble_eq_true rfl, Nat.le_of_ble_eq_true rfl⟩ rfl rfl (jc.deep (r_exps hI_M hH_M hS_M (Kp.rfl _) (by omega)  (fun r18 z18 w18_0 => ?_)) (by decide))
      refine jr.icmp_ge rfl rfl (by omega) (by omega) (fun h193 => ?_) (fun h193 => ?_)
      · obtain ⟨v19, e19⟩ : ∃ z, M 598 72 = z := ⟨_, rfl⟩
        have b19 : 0 ≤ v19 ∧ v19 ≤ 1600 := by rw [← e19]; exact hI_M 598 72 (by decide)
        have y20 : M 598 72 = v19 := e19
        obtain ⟨v21, e21⟩ : ∃ z, M 598 73 = z := ⟨_, rfl⟩
        have b21 : 0 ≤ v21 ∧ v21 ≤ 1600 := by rw [← e21]; exact hI_M 598 73 (by decide)
        have y22 : M 598 73 = v21 := e21
        obtain ⟨v23, e23⟩ : ∃ z, M 598 74 = z := ⟨_, rfl⟩
        have b23 : 0 ≤ v23 ∧ v23 ≤ 4 := by rw [← e23]; exact hI_M 598 74 (by decide)
        have y24 : M 598 74 = v23 := e23
        obtain ⟨v25, e25⟩ : ∃ z, M 598 79 = z := ⟨_, rfl⟩
        have b25 : 0 ≤ v25 ∧ v25 ≤ 255 := by rw [← e25]; exact hI_M 598 79 (by decide)
        have y26 : M 598 79 = v25 := e25
        obtain ⟨v27, e27⟩ : ∃ z, M 598 80 = z := ⟨_, rfl⟩
        have b27 : 0 ≤ v27 ∧ v27 ≤ 7 := by rw [← e27]; exact hI_M 598 80 (by decide)
        have y28 : M 598 80 = v27 := e27
        obtain ⟨v29, e29⟩ : ∃ z, M 598 89 = z := ⟨_, rfl⟩
        have b29 : 0 ≤ v29 ∧ v29 ≤ 301 := by rw [← e29]; exact hI_M 598 89 (by decide)
        have y30 : M 598 89 = v29 := e29
        obtain ⟨v31, e31⟩ : ∃ z, M 598 90 = z := ⟨_, rfl⟩
        have b31 : 0 ≤ v31 ∧ v31 ≤ 2200 := by rw [← e31]; exact hI_M 598 90 (by decide)
        have y32 : M 598 90 = v31 := e31
        obtain ⟨v33, e33⟩ : ∃ z, M 598 96 = z := ⟨_, rfl⟩
        have b33 : 0 ≤ v33 ∧ v33 ≤ 300 := by rw [← e33]; exact hI_M 598 96 (by decide)
        have y34 : M 598 96 = v33 := e33
        obtain ⟨v35, e35⟩ : ∃ z, M 598 100 = z := ⟨_, rfl⟩
        have b35 : 0 ≤ v35 ∧ v35 ≤ 13 := by rw [← e35]; exact hI_M 598 100 (by decide)
        have y36 : M 598 100 = v35 := e35
        obtain ⟨v37, e37⟩ : ∃ z, M 598 107 = z := ⟨_, rfl⟩
        have b37 : 0 ≤ v37 ∧ v37 ≤ 16 := by rw [← e37]; exact hI_M 598 107 (by decide)
        have y38 : M 598 107 = v37 := e37
        obtain ⟨v39, e39⟩ : ∃ z, M 598 88 = z := ⟨_, rfl⟩
        have b39 : 0 ≤ v39 ∧ v39 ≤ 16 := by rw [← e39]; exact hI_M 598 88 (by decide)
        refine jr.pick (ls := [_, _]) [1, 2] rfl rfl ?_
        exact r_deed_L230 q M w hI_M hH_M hS_M  (fun a i f598 f659 f660 f661 f662 f663 f664 f665 f666 f667 f668 f669 => (hF_M a i f598 f659 f660 f661 f662 f663 f664 f665 f666 f667 f668 f669)) (fun i g73 g74 g75 g76 g77 g78 g79 g80 g81 g89 g90 g96 g100 g102 g107 => (hG_M i g73 g74 g75 g76 g77 g78 g79 g80 g81 g89 g90 g96 g100 g102 g107)) (by omega) (Or.inr ⟨⟨by omega, by rw [show ndo (20 + w) = k by omega]; exact hX, by omega, by omega, by omega, by omega⟩, by omega, Or.inl ⟨by omega, by omega, hA⟩⟩) (by rw [e21, e19] <;> omega) (by omega) (by omega) (by rw [e37] <;> omega) (by rw [e39] <;> omega) (by rw [e37] <;> omega)
      · refine jr.aload_n rfl rfl ?_
        obtain ⟨v40, e40⟩ : ∃ z, M 598 80 = z := ⟨_, rfl⟩
        have b40 : 0 ≤ v40 ∧ v40 ≤ 7 := by rw [← e40]; exact hI_M 598 80 (by decide)
        refine jr_v rfl rfl (Or.inl rfl) rfl rfl (by decide) rfl ⟨rfl, Nat.le_of_ble_eq_true rfl, Nat.le_of_ble_eq_true rfl⟩ rfl (jc.deep (c_good hI_M  (fun t197_0 => ?_) (fun f197_0 => ?_)) (by decide))
        · refine jr.if_eq rfl rfl (by omega) (fun h => absurd h (by decide)) (fun _ => ?_)
          refine jr.iload_n rfl rfl ?_
          refine jr.if_le rfl rfl (by omega) (fun h204 => ?_) (fun h204 => ?_)
          · refine jr.aload_n rfl rfl ?_
            refine jr_v rfl rfl (Or.inl rfl) rfl rfl (by decide) rfl ⟨rfl, Nat.le_of_ble_eq_true rfl, Nat.le_of_ble_eq_true rfl⟩ rfl (jc.deep (c_good hI_M  (fun t214_0 => ?_) (fun f214_0 => ?_)) (by decide))
            · refine jr.if_eq rfl rfl (by omega) (fun h => absurd h (by decide)) (fun _ => ?_)
              refine jr.aload_n rfl rfl ?_
              refine jr_v rfl rfl (Or.inl rfl) rfl rfl (by decide) rfl ⟨rfl, Nat.le_of_ble_eq_true rfl, Nat.le_of_ble_eq_true rfl⟩ rfl (jc.deep (c_exp hI_M hH_M hS_M ⟨by omega, hX, by omega, by omega, by omega, by omega⟩ (by omega) (fun M41 hI_M41 hH_M41 hS_M41 bs41 wt41 wl41 wc41 wn41 wF41 wG41 => ?_) (fun M41 hI_M41 hH_M41 hS_M41 ss41 wt41 wc41 wn41 wF41 wG41 => ?_)) (by decide))
              · obtain ⟨ba41, bb41⟩ := bs41
                refine jr.iinc (ls' := [_, _, _]) rfl rfl (by decide) rfl ?_
                refine jr.goto rfl rfl ?_
                obtain ⟨v42, e42⟩ : ∃ z, M41 598 80 = z := ⟨_, rfl⟩
                have b42 : 0 ≤ v42 ∧ v42 ≤ 7 := by rw [← e42]; exact hI_M41 598 80 (by decide)
                have y43 : M41 598 80 = v42 := e42
                obtain ⟨v44, e44⟩ : ∃ z, M41 598 90 = z := ⟨_, rfl⟩
                have b44 : 0 ≤ v44 ∧ v44 ≤ 2200 := by rw [← e44]; exact hI_M41 598 90 (by decide)
                have y45 : M41 598 90 = v44 := e44
                obtain ⟨v46, e46⟩ : ∃ z, M41 598 73 = z := ⟨_, rfl⟩
                have b46 : 0 ≤ v46 ∧ v46 ≤ 1600 := by rw [← e46]; exact hI_M41 598 73 (by decide)
                obtain ⟨v47, e47⟩ : ∃ z, M 598 72 = z := ⟨_, rfl⟩
                have b47 : 0 ≤ v47 ∧ v47 ≤ 1600 := by rw [← e47]; exact hI_M 598 72 (by decide)
                have e48 : M41 598 72 = v47 := ((wG41 72 (by decide) (by decide) (by decide) (by decide) (by decide) (by decide) (by decide) (by decide) (by decide) (by decide) (by decide) (by decide) (by decide)).trans e47)
                obtain ⟨v49, e49⟩ : ∃ z, M 598 107 = z := ⟨_, rfl⟩
                have b49 : 0 ≤ v49 ∧ v49 ≤ 16 := by rw [← e49]; exact hI_M 598 107 (by decide)
                have e50 : M41 598 107 = v49 := ((wG41 107 (by decide) (by decide) (by decide) (by decide) (by decide) (by decide) (by decide) (by decide) (by decide) (by decide) (by decide) (by decide) (by decide)).trans e49)
                obtain ⟨v51, e51⟩ : ∃ z, M 598 88 = z := ⟨_, rfl⟩
                have b51 : 0 ≤ v51 ∧ v51 ≤ 16 := by rw [← e51]; exact hI_M 598 88 (by decide)
                have e52 : M41 598 88 = v51 := ((wG41 88 (by decide) (by decide) (by decide) (by decide) (by decide) (by decide) (by decide) (by decide) (by decide) (by decide) (by decide) (by decide) (by decide)).trans e51)
                refine jr.pick (ls := [_, _, _]) [0, 1, 2] rfl rfl ?_
                exact ih (nM - 1) (by omega) M41 (k + 1) w hI_M41 hH_M41 hS_M41  (fun a i f598 f659 f660 f661 f662 f663 f664 f665 f666 f667 f668 f669 => ((wF41 a i f598 f659 f660 f664 f665 f666 f667).trans (hF_M a i f598 f659 f660 f661 f662 f663 f664 f665 f666 f667 f668 f669))) (fun i g73 g74 g75 g76 g77 g78 g79 g80 g81 g89 g90 g96 g100 g102 g107 => ((wG41 i g73 g74 g75 g76 g77 g78 g79 g80 g81 g89 g90 g100 g102).trans (hG_M i g73 g74 g75 g76 g77 g78 g79 g80 g81 g89 g90 g96 g100 g102 g107))) (by omega) (by omega) (Or.inl ⟨by omega, by omega⟩) (by rw [e46, e48] <;> omega) (by omega) (by omega) (by rw [e50] <;> omega) (by rw [e52] <;> omega) (by omega) (by rw [e50] <;> omega) (by omega)
              · obtain ⟨sa41, hX, sc41, sd41, se41, sf41⟩ := ss41
                have hA := AK.cp hA wc41 (fun i => wF41 663 i (by decide) (by decide) (by decide) (by decide) (by decide) (by decide) (by decide)) (wG41 96 (by decide) (by decide) (by decide) (by decide) (by decide) (by decide) (by decide) (by decide) (by decide) (by decide) (by decide) (by decide) (by decide))
                have dpx41 := XS.dep hX
                have sl41 := XS.sgle hX
                have bM41_107 : (0 : Int) ≤ M41 598 107 ∧ M41 598 107 ≤ 16 := hI_M41 598 107 (by decide)
                have bM41_73 : (0 : Int) ≤ M41 598 73 ∧ M41 598 73 ≤ 1600 := hI_M41 598 73 (by decide)
                have bM41_88 : (0 : Int) ≤ M41 598 88 ∧ M41 598 88 ≤ 16 := hI_M41 598 88 (by decide)
                have bM41_100 : (0 : Int) ≤ M41 598 100 ∧ M41 598 100 ≤ 13 := hI_M41 598 100 (by decide)
                refine jr.iinc (ls' := [_, _, _]) rfl rfl (by decide) rfl ?_
                refine jr.goto rfl rfl ?_
                obtain ⟨v53, e53⟩ : ∃ z, M 598 72 = z := ⟨_, rfl⟩
                have b53 : 0 ≤ v53 ∧ v53 ≤ 1600 := by rw [← e53]; exact hI_M 598 72 (by decide)
                have e54 : M41 598 72 = v53 := ((wG41 72 (by decide) (by decide) (by decide) (by decide) (by decide) (by decide) (by decide) (by decide) (by decide) (by decide) (by decide) (by decide) (by decide)).trans e53)
                have y55 : M41 598 72 = v53 := e54
                obtain ⟨v56, e56⟩ : ∃ z, M41 598 73 = z := ⟨_, rfl⟩
                have b56 : 0 ≤ v56 ∧ v56 ≤ 1600 := by rw [← e56]; exact hI_M41 598 73 (by decide)
                have y57 : M41 598 73 = v56 := e56
                obtain ⟨v58, e58⟩ : ∃ z, M41 598 74 = z := ⟨_, rfl⟩
                have b58 : 0 ≤ v58 ∧ v58 ≤ 4 := by rw [← e58]; exact hI_M41 598 74 (by decide)
                have y59 : M41 598 74 = v58 := e58
                obtain ⟨v60, e60⟩ : ∃ z, M41 598 79 = z := ⟨_, rfl⟩
                have b60 : 0 ≤ v60 ∧ v60 ≤ 255 := by rw [← e60]; exact hI_M41 598 79 (by decide)
                have y61 : M41 598 79 = v60 := e60
                obtain ⟨v62, e62⟩ : ∃ z, M41 598 80 = z := ⟨_, rfl⟩
                have b62 : 0 ≤ v62 ∧ v62 ≤ 7 := by rw [← e62]; exact hI_M41 598 80 (by decide)
                have y63 : M41 598 80 = v62 := e62
                obtain ⟨v64, e64⟩ : ∃ z, M41 598 89 = z := ⟨_, rfl⟩
                have b64 : 0 ≤ v64 ∧ v64 ≤ 301 := by rw [← e64]; exact hI_M41 598 89 (by decide)
                have y65 : M41 598 89 = v64 := e64
                obtain ⟨v66, e66⟩ : ∃ z, M41 598 90 = z := ⟨_, rfl⟩
                have b66 : 0 ≤ v66 ∧ v66 ≤ 2200 := by rw [← e66]; exact hI_M41 598 90 (by decide)
                have y67 : M41 598 90 = v66 := e66
                obtain ⟨v68, e68⟩ : ∃ z, M 598 96 = z := ⟨_, rfl⟩
                have b68 : 0 ≤ v68 ∧ v68 ≤ 300 := by rw [← e68]; exact hI_M 598 96 (by decide)
                have e69 : M41 598 96 = v68 := ((wG41 96 (by decide) (by decide) (by decide) (by decide) (by decide) (by decide) (by decide) (by decide) (by decide) (by decide) (by decide) (by decide) (by decide)).trans e68)
                have y70 : M41 598 96 = v68 := e69
                obtain ⟨v71, e71⟩ : ∃ z, M41 598 100 = z := ⟨_, rfl⟩
                have b71 : 0 ≤ v71 ∧ v71 ≤ 13 := by rw [← e71]; exact hI_M41 598 100 (by decide)
                have y72 : M41 598 100 = v71 := e71
                obtain ⟨v73, e73⟩ : ∃ z, M 598 107 = z := ⟨_, rfl⟩
                have b73 : 0 ≤ v73 ∧ v73 ≤ 16 := by rw [← e73]; exact hI_M 598 107 (by decide)
                have e74 : M41 598 107 = v73 := ((wG41 107 (by decide) (by decide) (by decide) (by decide) (by decide) (by decide) (by decide) (by decide) (by decide) (by decide) (by decide) (by decide) (by decide)).trans e73)
                have y75 : M41 598 107 = v73 := e74
                obtain ⟨v76, e76⟩ : ∃ z, M 598 88 = z := ⟨_, rfl⟩
                have b76 : 0 ≤ v76 ∧ v76 ≤ 16 := by rw [← e76]; exact hI_M 598 88 (by decide)
                have e77 : M41 598 88 = v76 := ((wG41 88 (by decide) (by decide) (by decide) (by decide) (by decide) (by decide) (by decide) (by decide) (by decide) (by decide) (by decide) (by decide) (by decide)).trans e76)
                refine jr.pick (ls := [_, _, _]) [0, 1, 2] rfl rfl ?_
                exact ih (nM - 1) (by omega) M41 (k + 1) w hI_M41 hH_M41 hS_M41  (fun a i f598 f659 f660 f661 f662 f663 f664 f665 f666 f667 f668 f669 => ((wF41 a i f598 f659 f660 f664 f665 f666 f667).trans (hF_M a i f598 f659 f660 f661 f662 f663 f664 f665 f666 f667 f668 f669))) (fun i g73 g74 g75 g76 g77 g78 g79 g80 g81 g89 g90 g96 g100 g102 g107 => ((wG41 i g73 g74 g75 g76 g77 g78 g79 g80 g81 g89 g90 g100 g102).trans (hG_M i g73 g74 g75 g76 g77 g78 g79 g80 g81 g89 g90 g96 g100 g102 g107))) (by omega) (by omega) (Or.inr ⟨⟨by omega, hX, by omega, by omega, by omega, by omega⟩, hA, by omega⟩) (by rw [e56, e54] <;> omega) (by omega) (by omega) (by rw [e74] <;> omega) (by rw [e77] <;> omega) (by omega) (by rw [e74] <;> omega) (by omega)
            · exfalso
              omega
          · refine jr.aload_n rfl rfl ?_
            refine jr.bipush rfl (by decide) ?_
            obtain ⟨v79, e79⟩ : ∃ z, M 598 73 = z := ⟨_, rfl⟩
            have b79 : 0 ≤ v79 ∧ v79 ≤ 1600 := by rw [← e79]; exact hI_M 598 73 (by decide)
            obtain ⟨v80, e80⟩ : ∃ z, M 598 72 = z := ⟨_, rfl⟩
            have b80 : 0 ≤ v80 ∧ v80 ≤ 1600 := by rw [← e80]; exact hI_M 598 72 (by decide)
            obtain ⟨v82, e82⟩ : ∃ z, M 598 74 = z := ⟨_, rfl⟩
            have b82 : 0 ≤ v82 ∧ v82 ≤ 4 := by rw [← e82]; exact hI_M 598 74 (by decide)
            obtain ⟨v84, e84⟩ : ∃ z, M 598 89 = z := ⟨_, rfl⟩
            have b84 : 0 ≤ v84 ∧ v84 ≤ 301 := by rw [← e84]; exact hI_M 598 89 (by decide)
            obtain ⟨v86, e86⟩ : ∃ z, M 598 100 = z := ⟨_, rfl⟩
            have b86 : 0 ≤ v86 ∧ v86 ≤ 13 := by rw [← e86]; exact hI_M 598 100 (by decide)
            refine jr_v rfl rfl (Or.inl rfl) rfl rfl (by decide) rfl ⟨rfl, Nat.le_of_ble_eq_true rfl, Nat.le_of_ble_eq_true rfl⟩ rfl (jc.deep (r_want hI_M hH_M hS_M  (by omega) (by rw [e79, e80]; omega) (fun M78 hI_M78 hH_M78 hS_M78  w78_0 w78_1 w78_2 w78_3 w78_4 w78_5 w78_6 w78_7 => ?_)) (by decide))
            have y81 : M 598 73 = v79 := e79
            have y83 : M 598 74 = v82 := e82
            have y85 : M 598 89 = v84 := e84
            have y87 : M 598 100 = v86 := e86
            have x78_89 := w78_7 89 (by decide) (by decide) (by decide) (by decide) (by decide) (by decide) (by decide) (by decide) (by decide)
            have x78_100 := w78_7 100 (by decide) (by decide) (by decide) (by decide) (by decide) (by decide) (by decide) (by decide) (by decide)
            have hX := XS.fr2 hX w78_6 (w78_7 88 (by decide) (by decide) (by decide) (by decide) (by decide) (by decide) (by decide) (by decide) (by decide)) (w78_7 90 (by decide) (by decide) (by decide) (by decide) (by decide) (by decide) (by decide) (by decide) (by decide)) (w78_7 101 (by decide) (by decide) (by decide) (by decide) (by decide) (by decide) (by decide) (by decide) (by decide)) (w78_7 107 (by decide) (by decide) (by decide) (by decide) (by decide) (by decide) (by decide) (by decide) (by decide)) (k' := 0 + 2 + 2) (d' := 0) (z' := 0) (by omega) (by omega) (by omega) (by omega)
            have hA := AK.cp hA (CP.f (CP.rfl _) (fun i => w78_6 659 i (by decide)) (w78_7 90 (by decide) (by decide) (by decide) (by decide) (by decide) (by decide) (by decide) (by decide) (by decide))) (fun i => w78_6 663 i (by decide)) (w78_7 96 (by decide) (by decide) (by decide) (by decide) (by decide) (by decide) (by decide) (by decide) (by decide))
            refine jr.aload_n rfl rfl ?_
            refine jr_v rfl rfl (Or.inl rfl) rfl rfl (by decide) rfl ⟨rfl, Nat.le_of_ble_eq_true rfl, Nat.le_of_ble_eq_true rfl⟩ rfl (jc.deep (c_good hI_M78  (fun t214_0 => ?_) (fun f214_0 => ?_)) (by decide))
            · have w78_3r := Classical.byContradiction (fun z => w78_3 z t214_0)
              have w78_4r := w78_4 t214_0
              clear w78_3 w78_4
              refine jr.if_eq rfl rfl (by omega) (fun h => absurd h (by decide)) (fun _ => ?_)
              refine jr.aload_n rfl rfl ?_
              refine jr_v rfl rfl (Or.inl rfl) rfl rfl (by decide) rfl ⟨rfl, Nat.le_of_ble_eq_true rfl, Nat.le_of_ble_eq_true rfl⟩ rfl (jc.deep (c_exp hI_M78 hH_M78 hS_M78 ⟨by omega, hX, by omega, by omega, by omega, by omega⟩ (by omega) (fun M88 hI_M88 hH_M88 hS_M88 bs88 wt88 wl88 wc88 wn88 wF88 wG88 => ?_) (fun M88 hI_M88 hH_M88 hS_M88 ss88 wt88 wc88 wn88 wF88 wG88 => ?_)) (by decide))
              · obtain ⟨ba88, bb88⟩ := bs88
                refine jr.iinc (ls' := [_, _, _]) rfl rfl (by decide) rfl ?_
                refine jr.goto rfl rfl ?_
                obtain ⟨v89, e89⟩ : ∃ z, M88 598 80 = z := ⟨_, rfl⟩
                have b89 : 0 ≤ v89 ∧ v89 ≤ 7 := by rw [← e89]; exact hI_M88 598 80 (by decide)
                have y90 : M88 598 80 = v89 := e89
                obtain ⟨v91, e91⟩ : ∃ z, M88 598 90 = z := ⟨_, rfl⟩
                have b91 : 0 ≤ v91 ∧ v91 ≤ 2200 := by rw [← e91]; exact hI_M88 598 90 (by decide)
                have y92 : M88 598 90 = v91 := e91
                obtain ⟨v93, e93⟩ : ∃ z, M88 598 73 = z := ⟨_, rfl⟩
                have b93 : 0 ≤ v93 ∧ v93 ≤ 1600 := by rw [← e93]; exact hI_M88 598 73 (by decide)
                have e94 : M78 598 72 = v80 := ((w78_7 72 (by decide) (by decide) (by decide) (by decide) (by decide) (by decide) (by decide) (by decide) (by decide)).trans e80)
                have e95 : M88 598 72 = v80 := ((wG88 72 (by decide) (by decide) (by decide) (by decide) (by decide) (by decide) (by decide) (by decide) (by decide) (by decide) (by decide) (by decide) (by decide)).trans e94)
                obtain ⟨v96, e96⟩ : ∃ z, M 598 107 = z := ⟨_, rfl⟩
                have b96 : 0 ≤ v96 ∧ v96 ≤ 16 := by rw [← e96]; exact hI_M 598 107 (by decide)
                have e97 : M78 598 107 = v96 := ((w78_7 107 (by decide) (by decide) (by decide) (by decide) (by decide) (by decide) (by decide) (by decide) (by decide)).trans e96)
                have e98 : M88 598 107 = v96 := ((wG88 107 (by decide) (by decide) (by decide) (by decide) (by decide) (by decide) (by decide) (by decide) (by decide) (by decide) (by decide) (by decide) (by decide)).trans e97)
                obtain ⟨v99, e99⟩ : ∃ z, M 598 88 = z := ⟨_, rfl⟩
                have b99 : 0 ≤ v99 ∧ v99 ≤ 16 := by rw [← e99]; exact hI_M 598 88 (by decide)
                have e100 : M78 598 88 = v99 := ((w78_7 88 (by decide) (by decide) (by decide) (by decide) (by decide) (by decide) (by decide) (by decide) (by decide)).trans e99)
                have e101 : M88 598 88 = v99 := ((wG88 88 (by decide) (by decide) (by decide) (by decide) (by decide) (by decide) (by decide) (by decide) (by decide) (by decide) (by decide) (by decide) (by decide)).trans e100)
                refine jr.pick (ls := [_, _, _]) [0, 1, 2] rfl rfl ?_
                exact ih (nM - 1) (by omega) M88 (k + 1) w hI_M88 hH_M88 hS_M88  (fun a i f598 f659 f660 f661 f662 f663 f664 f665 f666 f667 f668 f669 => ((wF88 a i f598 f659 f660 f664 f665 f666 f667).trans ((w78_6 a i f598).trans (hF_M a i f598 f659 f660 f661 f662 f663 f664 f665 f666 f667 f668 f669)))) (fun i g73 g74 g75 g76 g77 g78 g79 g80 g81 g89 g90 g96 g100 g102 g107 => ((wG88 i g73 g74 g75 g76 g77 g78 g79 g80 g81 g89 g90 g100 g102).trans ((w78_7 i g73 g74 g75 g76 g77 g78 g79 g80 g81).trans (hG_M i g73 g74 g75 g76 g77 g78 g79 g80 g81 g89 g90 g96 g100 g102 g107)))) (by omega) (by omega) (Or.inl ⟨by omega, by omega⟩) (by rw [e93, e95] <;> omega) (by omega) (by omega) (by rw [e98] <;> omega) (by rw [e101] <;> omega) (by omega) (by rw [e98] <;> omega) (by omega)
              · obtain ⟨sa88, hX, sc88, sd88, se88, sf88⟩ := ss88
                have hA := AK.cp hA wc88 (fun i => wF88 663 i (by decide) (by decide) (by decide) (by decide) (by decide) (by decide) (by decide)) (wG88 96 (by decide) (by decide) (by decide) (by decide) (by decide) (by decide) (by decide) (by decide) (by decide) (by decide) (by decide) (by decide) (by decide))
                have dpx88 := XS.dep hX
                have sl88 := XS.sgle hX
                have bM88_107 : (0 : Int) ≤ M88 598 107 ∧ M88 598 107 ≤ 16 := hI_M88 598 107 (by decide)
                have bM88_73 : (0 : Int) ≤ M88 598 73 ∧ M88 598 73 ≤ 1600 := hI_M88 598 73 (by decide)
                have bM88_88 : (0 : Int) ≤ M88 598 88 ∧ M88 598 88 ≤ 16 := hI_M88 598 88 (by decide)
                have bM88_100 : (0 : Int) ≤ M88 598 100 ∧ M88 598 100 ≤ 13 := hI_M88 598 100 (by decide)
                refine jr.iinc (ls' := [_, _, _]) rfl rfl (by decide) rfl ?_
                refine jr.goto rfl rfl ?_
                have e102 : M78 598 72 = v80 := ((w78_7 72 (by decide) (by decide) (by decide) (by decide) (by decide) (by decide) (by decide) (by decide) (by decide)).trans e80)
                have e103 : M88 598 72 = v80 := ((wG88 72 (by decide) (by decide) (by decide) (by decide) (by decide) (by decide) (by decide) (by decide) (by decide) (by decide) (by decide) (by decide) (by decide)).trans e102)
                have y104 : M88 598 72 = v80 := e103
                obtain ⟨v105, e105⟩ : ∃ z, M88 598 73 = z := ⟨_, rfl⟩
                have b105 : 0 ≤ v105 ∧ v105 ≤ 1600 := by rw [← e105]; exact hI_M88 598 73 (by decide)
                have y106 : M88 598 73 = v105 := e105
                obtain ⟨v107, e107⟩ : ∃ z, M88 598 74 = z := ⟨_, rfl⟩
                have b107 : 0 ≤ v107 ∧ v107 ≤ 4 := by rw [← e107]; exact hI_M88 598 74 (by decide)
                have y108 : M88 598 74 = v107 := e107
                obtain ⟨v109, e109⟩ : ∃ z, M88 598 79 = z := ⟨_, rfl⟩
                have b109 : 0 ≤ v109 ∧ v109 ≤ 255 := by rw [← e109]; exact hI_M88 598 79 (by decide)
                have y110 : M88 598 79 = v109 := e109
                obtain ⟨v111, e111⟩ : ∃ z, M88 598 80 = z := ⟨_, rfl⟩
                have b111 : 0 ≤ v111 ∧ v111 ≤ 7 := by rw [← e111]; exact hI_M88 598 80 (by decide)
                have y112 : M88 598 80 = v111 := e111
                obtain ⟨v113, e113⟩ : ∃ z, M88 598 89 = z := ⟨_, rfl⟩
                have b113 : 0 ≤ v113 ∧ v113 ≤ 301 := by rw [← e113]; exact hI_M88 598 89 (by decide)
                have y114 : M88 598 89 = v113 := e113
                obtain ⟨v115, e115⟩ : ∃ z, M88 598 90 = z := ⟨_, rfl⟩
                have b115 : 0 ≤ v115 ∧ v115 ≤ 2200 := by rw [← e115]; exact hI_M88 598 90 (by decide)
                have y116 : M88 598 90 = v115 := e115
                obtain ⟨v117, e117⟩ : ∃ z, M 598 96 = z := ⟨_, rfl⟩
                have b117 : 0 ≤ v117 ∧ v117 ≤ 300 := by rw [← e117]; exact hI_M 598 96 (by decide)
                have e118 : M78 598 96 = v117 := ((w78_7 96 (by decide) (by decide) (by decide) (by decide) (by decide) (by decide) (by decide) (by decide) (by decide)).trans e117)
                have e119 : M88 598 96 = v117 := ((wG88 96 (by decide) (by decide) (by decide) (by decide) (by decide) (by decide) (by decide) (by decide) (by decide) (by decide) (by decide) (by decide) (by decide)).trans e118)
                have y120 : M88 598 96 = v117 := e119
                obtain ⟨v121, e121⟩ : ∃ z, M88 598 100 = z := ⟨_, rfl⟩
                have b121 : 0 ≤ v121 ∧ v121 ≤ 13 := by rw [← e121]; exact hI_M88 598 100 (by decide)
                have y122 : M88 598 100 = v121 := e121
                obtain ⟨v123, e123⟩ : ∃ z, M 598 107 = z := ⟨_, rfl⟩
                have b123 : 0 ≤ v123 ∧ v123 ≤ 16 := by rw [← e123]; exact hI_M 598 107 (by decide)
                have e124 : M78 598 107 = v123 := ((w78_7 107 (by decide) (by decide) (by decide) (by decide) (by decide) (by decide) (by decide) (by decide) (by decide)).trans e123)
                have e125 : M88 598 107 = v123 := ((wG88 107 (by decide) (by decide) (by decide) (by decide) (by decide) (by decide) (by decide) (by decide) (by decide) (by decide) (by decide) (by decide) (by decide)).trans e124)
                have y126 : M88 598 107 = v123 := e125
                obtain ⟨v127, e127⟩ : ∃ z, M 598 88 = z := ⟨_, rfl⟩
                have b127 : 0 ≤ v127 ∧ v127 ≤ 16 := by rw [← e127]; exact hI_M 598 88 (by decide)
                have e128 : M78 598 88 = v127 := ((w78_7 88 (by decide) (by decide) (by decide) (by decide) (by decide) (by decide) (by decide) (by decide) (by decide)).trans e127)
                have e129 : M88 598 88 = v127 := ((wG88 88 (by decide) (by decide) (by decide) (by decide) (by decide) (by decide) (by decide) (by decide) (by decide) (by decide) (by decide) (by decide) (by decide)).trans e128)
                refine jr.pick (ls := [_, _, _]) [0, 1, 2] rfl rfl ?_
                exact ih (nM - 1) (by omega) M88 (k + 1) w hI_M88 hH_M88 hS_M88  (fun a i f598 f659 f660 f661 f662 f663 f664 f665 f666 f667 f668 f669 => ((wF88 a i f598 f659 f660 f664 f665 f666 f667).trans ((w78_6 a i f598).trans (hF_M a i f598 f659 f660 f661 f662 f663 f664 f665 f666 f667 f668 f669)))) (fun i g73 g74 g75 g76 g77 g78 g79 g80 g81 g89 g90 g96 g100 g102 g107 => ((wG88 i g73 g74 g75 g76 g77 g78 g79 g80 g81 g89 g90 g100 g102).trans ((w78_7 i g73 g74 g75 g76 g77 g78 g79 g80 g81).trans (hG_M i g73 g74 g75 g76 g77 g78 g79 g80 g81 g89 g90 g96 g100 g102 g107)))) (by omega) (by omega) (Or.inr ⟨⟨by omega, hX, by omega, by omega, by omega, by omega⟩, hA, by omega⟩) (by rw [e105, e103] <;> omega) (by omega) (by omega) (by rw [e125] <;> omega) (by rw [e129] <;> omega) (by omega) (by rw [e125] <;> omega) (by omega)
            · refine jr.if_eq rfl rfl (by omega) (fun _ => ?_) (fun h => absurd (by decide) h)
              refine jr.iinc (ls' := [_, _, _]) rfl rfl (by decide) rfl ?_
              refine jr.goto rfl rfl ?_
              obtain ⟨v130, e130⟩ : ∃ z, M78 598 80 = z := ⟨_, rfl⟩
              have b130 : 0 ≤ v130 ∧ v130 ≤ 7 := by rw [← e130]; exact hI_M78 598 80 (by decide)
              have y131 : M78 598 80 = v130 := e130
              obtain ⟨v132, e132⟩ : ∃ z, M 598 90 = z := ⟨_, rfl⟩
              have b132 : 0 ≤ v132 ∧ v132 ≤ 2200 := by rw [← e132]; exact hI_M 598 90 (by decide)
              have e133 : M78 598 90 = v132 := ((w78_7 90 (by decide) (by decide) (by decide) (by decide) (by decide) (by decide) (by decide) (by decide) (by decide)).trans e132)
              have y134 : M78 598 90 = v132 := e133
              obtain ⟨v135, e135⟩ : ∃ z, M78 598 73 = z := ⟨_, rfl⟩
              have b135 : 0 ≤ v135 ∧ v135 ≤ 1600 := by rw [← e135]; exact hI_M78 598 73 (by decide)
              have e136 : M78 598 72 = v80 := ((w78_7 72 (by decide) (by decide) (by decide) (by decide) (by decide) (by decide) (by decide) (by decide) (by decide)).trans e80)
              obtain ⟨v137, e137⟩ : ∃ z, M 598 107 = z := ⟨_, rfl⟩
              have b137 : 0 ≤ v137 ∧ v137 ≤ 16 := by rw [← e137]; exact hI_M 598 107 (by decide)
              have e138 : M78 598 107 = v137 := ((w78_7 107 (by decide) (by decide) (by decide) (by decide) (by decide) (by decide) (by decide) (by decide) (by decide)).trans e137)
              obtain ⟨v139, e139⟩ : ∃ z, M 598 88 = z := ⟨_, rfl⟩
              have b139 : 0 ≤ v139 ∧ v139 ≤ 16 := by rw [← e139]; exact hI_M 598 88 (by decide)
              have e140 : M78 598 88 = v139 := ((w78_7 88 (by decide) (by decide) (by decide) (by decide) (by decide) (by decide) (by decide) (by decide) (by decide)).trans e139)
              refine jr.pick (ls := [_, _, _]) [0, 1, 2] rfl rfl ?_
              exact ih (nM - 1) (by omega) M78 (k + 1) w hI_M78 hH_M78 hS_M78  (fun a i f598 f659 f660 f661 f662 f663 f664 f665 f666 f667 f668 f669 => ((w78_6 a i f598).trans (hF_M a i f598 f659 f660 f661 f662 f663 f664 f665 f666 f667 f668 f669))) (fun i g73 g74 g75 g76 g77 g78 g79 g80 g81 g89 g90 g96 g100 g102 g107 => ((w78_7 i g73 g74 g75 g76 g77 g78 g79 g80 g81).trans (hG_M i g73 g74 g75 g76 g77 g78 g79 g80 g81 g89 g90 g96 g100 g102 g107))) (by omega) (by omega) (Or.inl ⟨by omega, by omega⟩) (by rw [e135, e136] <;> omega) (by omega) (by omega) (by rw [e138] <;> omega) (by rw [e140] <;> omega) (by omega) (by rw [e138] <;> omega) (by omega)
        · exfalso
          omega
