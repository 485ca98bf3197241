theorem r_behind_x {A : Nat → Option (Nat × (Nat → Int32))} {Q : Option Value → jm → Prop} {M : jm} (hI_M : RI M) (hH_M : RH M) (hS_M : RF M) {x : Int} (h_x : 0 ≤ x ∧ x ≤ 23) {k : Int} (h_k : 0 ≤ k ∧ k ≤ 10) {a : Int} (h_a : 0 ≤ a ∧ a ≤ 400) (p0 : a + hls k ≤ M 600 x) (q : ∀ (r : Int), 0 ≤ r ∧ r ≤ 11 → r = hsN (rf M x) (M 600 x) k a (a + 8) → Q (some (.int (Int32.ofInt r))) M) : jc A 3 265 [.ref (598), .int (Int32.ofInt (x)), .int (Int32.ofInt (k)), .int (Int32.ofInt (a))] M Q := by
  have nb : (-1 : Int) ≤ M 600 x ∧ M 600 x ≤ 400 := (by have q := hI_M 600 x (by decide); rw [xri_row rfl rfl] at q; exact q)
  rcases (show k = 0 ∨ k = 1 ∨ k = 2 ∨ k = 3 ∨ k = 4 ∨ k = 5 ∨ k = 6 ∨ k = 7 ∨ k = 8 ∨ k = 9 ∨ k = 10 by omega) with rfl | rfl | rfl | rfl | rfl | rfl | rfl | rfl | rfl | rfl | rfl
  · have lk : lst 0 = 4 := rfl
    have lh : hls 0 = 4 := rfl
    have lr : lsr 0 = 4 := rfl
    refine jc_of (m := xm_265) rfl (Nat.le_of_ble_eq_true rfl) rfl ?_
    refine jr.iload_n rfl rfl ?_
    refine jr.tsw_k 0 rfl rfl rfl ?_
    refine jr.aload_n rfl rfl ?_
    refine jr.iload_n rfl rfl ?_
    refine jr.iload_n rfl rfl ?_
    refine jr.iconst rfl ?_
    refine jr.iadd rfl ?_
    refine jr_v rfl rfl (Or.inl rfl) rfl rfl (by decide) rfl ⟨rfl, Nat.le_of_ble_eq_true rfl, Nat.le_of_ble_eq_true rfl⟩ rfl (jc.deep (r_two_x hI_M hH_M hS_M  (by omega) (by omega)  (fun r1 z1 w1_0 => ?_)) (by decide))
    refine jr_s rfl rfl (Or.inl rfl) ⟨Nat.le_of_ble_eq_true rfl, Nat.le_of_ble_eq_true rfl⟩ rfl rfl (jc.deep (r_byKind_x hI_M hH_M hS_M  (by omega)  (fun r2 z2 w2_0 => ?_)) (by decide))
    exact jr.ireturn rfl rfl rfl (q _ (by omega) (by simp only [hsN, Int.reduceEq, reduceIte, or_false, false_or, or_true, true_or, or_self]; rw [← w1_0]; exact w2_0))
  · have lk : lst 1 = 4 := rfl
    have lh : hls 1 = 4 := rfl
    have lr : lsr 1 = 4 := rfl
    refine jc_of (m := xm_265) rfl (Nat.le_of_ble_eq_true rfl) rfl ?_
    refine jr.iload_n rfl rfl ?_
    refine jr.tsw_k 1 rfl rfl rfl ?_
    refine jr.aload_n rfl rfl ?_
    refine jr.iload_n rfl rfl ?_
    refine jr.iload_n rfl rfl ?_
    refine jr.iconst rfl ?_
    refine jr.iadd rfl ?_
    refine jr_v rfl rfl (Or.inl rfl) rfl rfl (by decide) rfl ⟨rfl, Nat.le_of_ble_eq_true rfl, Nat.le_of_ble_eq_true rfl⟩ rfl (jc.deep (r_two_x hI_M hH_M hS_M  (by omega) (by omega)  (fun r1 z1 w1_0 => ?_)) (by decide))
    refine jr_s rfl rfl (Or.inl rfl) ⟨Nat.le_of_ble_eq_true rfl, Nat.le_of_ble_eq_true rfl⟩ rfl rfl (jc.deep (r_byKind_x hI_M hH_M hS_M  (by omega)  (fun r2 z2 w2_0 => ?_)) (by decide))
    exact jr.ireturn rfl rfl rfl (q _ (by omega) (by simp only [hsN, Int.reduceEq, reduceIte, or_false, false_or, or_true, true_or, or_self]; rw [← w1_0]; exact w2_0))
  · have lk : lst 2 = 20 := rfl
    have lh : hls 2 = 20 := rfl
    have lr : lsr 2 = 20 := rfl
    refine jc_of (m := xm_265) rfl (Nat.le_of_ble_eq_true rfl) rfl ?_
    refine jr.iload_n rfl rfl ?_
    refine jr.tsw_k 2 rfl rfl rfl ?_
    refine jr.aload_n rfl rfl ?_
    refine jr.iload_n rfl rfl ?_
    refine jr.iload_n rfl rfl ?_
    refine jr.bipush rfl (by decide) ?_
    refine jr.iadd rfl ?_
    refine jr_v rfl rfl (Or.inl rfl) rfl rfl (by decide) rfl ⟨rfl, Nat.le_of_ble_eq_true rfl, Nat.le_of_ble_eq_true rfl⟩ rfl (jc.deep (r_two_x hI_M hH_M hS_M  (by omega) (by omega)  (fun r1 z1 w1_0 => ?_)) (by decide))
    refine jr.sipush rfl (by decide) ?_
    refine jr.iand rfl ?_
    have b2 : j_and r1 8191 = r1 % 8192 := j_and_m 13 (by decide) _
    generalize j_and r1 8191 = v2 at b2 ⊢
    refine jr.if_le rfl rfl (by omega) (fun h85 => ?_) (fun h85 => ?_)
    · refine jr.aload_n rfl rfl ?_
      refine jr.iload_n rfl rfl ?_
      refine jr.iload_n rfl rfl ?_
      refine jr.bipush rfl (by decide) ?_
      refine jr.iadd rfl ?_
      refine jr_v rfl rfl (Or.inl rfl) rfl rfl (by decide) rfl ⟨rfl, Nat.le_of_ble_eq_true rfl, Nat.le_of_ble_eq_true rfl⟩ rfl (jc.deep (r_one hI_M hH_M hS_M (Kp.rfl _) (by omega) (by omega)  (fun r3 z3 w3_0 => ?_)) (by decide))
      refine jr.iconst rfl ?_
      refine jr_s rfl rfl (Or.inl rfl) ⟨Nat.le_of_ble_eq_true rfl, Nat.le_of_ble_eq_true rfl⟩ rfl rfl (jc.deep (r_byNext_x hI_M hH_M hS_M  (by omega) (by omega)  (fun r4 z4 w4_0 => ?_)) (by decide))
      exact jr.ireturn rfl rfl rfl (q _ (by omega) (by simp only [hsN, Int.reduceEq, reduceIte, or_false, false_or, or_true, true_or, or_self]; rw [if_neg (by omega), hb_i (by omega) (by omega)]; unfold rf; rw [← w3_0]; exact w4_0))
    · refine jr.bipush rfl (by decide) ?_
      refine jr.goto rfl rfl ?_
      exact jr.ireturn rfl rfl rfl (q _ (by omega) (by simp only [hsN, Int.reduceEq, reduceIte, or_false, false_or, or_true, true_or, or_self]; rw [if_pos (by omega)]))
  · have lk : lst 3 = 24 := rfl
    have lh : hls 3 = 24 := rfl
    have lr : lsr 3 = 24 := rfl
    refine jc_of (m := xm_265) rfl (Nat.le_of_ble_eq_true rfl) rfl ?_
    refine jr.iload_n rfl rfl ?_
    refine jr.tsw_k 3 rfl rfl rfl ?_
    refine jr.aload_n rfl rfl ?_
    refine jr.iload_n rfl rfl ?_
    refine jr.iload_n rfl rfl ?_
    refine jr.iconst rfl ?_
    refine jr.iadd rfl ?_
    refine jr_v rfl rfl (Or.inl rfl) rfl rfl (by decide) rfl ⟨rfl, Nat.le_of_ble_eq_true rfl, Nat.le_of_ble_eq_true rfl⟩ rfl (jc.deep (r_one hI_M hH_M hS_M (Kp.rfl _) (by omega) (by omega)  (fun r1 z1 w1_0 => ?_)) (by decide))
    refine jr.iconst rfl ?_
    refine jr_s rfl rfl (Or.inl rfl) ⟨Nat.le_of_ble_eq_true rfl, Nat.le_of_ble_eq_true rfl⟩ rfl rfl (jc.deep (r_byNext_x hI_M hH_M hS_M  (by omega) (by omega)  (fun r2 z2 w2_0 => ?_)) (by decide))
    exact jr.ireturn rfl rfl rfl (q _ (by omega) (by simp only [hsN, Int.reduceEq, reduceIte, or_false, false_or, or_true, true_or, or_self]; rw [hb_i (by omega) (by omega)]; unfold rf; rw [← w1_0]; exact w2_0))
  · have lk : lst 4 = 8 := rfl
    have lh : hls 4 = 2 := rfl
    have lr : lsr 4 = 8 := rfl
    refine jc_of (m := xm_265) rfl (Nat.le_of_ble_eq_true rfl) rfl ?_
    refine jr.iload_n rfl rfl ?_
    refine jr.tsw_k 4 rfl rfl rfl ?_
    refine jr.aload_n rfl rfl ?_
    refine jr.iload_n rfl rfl ?_
    refine jr.iload_n rfl rfl ?_
    refine jr_v rfl rfl (Or.inl rfl) rfl rfl (by decide) rfl ⟨rfl, Nat.le_of_ble_eq_true rfl, Nat.le_of_ble_eq_true rfl⟩ rfl (jc.deep (r_one hI_M hH_M hS_M (Kp.rfl _) (by omega) (by omega)  (fun r1 z1 w1_0 => ?_)) (by decide))
    refine jr.iconst rfl ?_
    refine jr_s rfl rfl (Or.inl rfl) ⟨Nat.le_of_ble_eq_true rfl, Nat.le_of_ble_eq_true rfl⟩ rfl rfl (jc.deep (r_byNext_x hI_M hH_M hS_M  (by omega) (by omega)  (fun r2 z2 w2_0 => ?_)) (by decide))
    exact jr.ireturn rfl rfl rfl (q _ (by omega) (by simp only [hsN, Int.reduceEq, reduceIte, or_false, false_or, or_true, true_or, or_self]; rw [hb_i (by omega) (by omega)]; unfold rf; rw [← w1_0]; exact w2_0))
  · have lk : lst 5 = 8 := rfl
    have lh : hls 5 = 2 := rfl
    have lr : lsr 5 = 8 := rfl
    refine jc_of (m := xm_265) rfl (Nat.le_of_ble_eq_true rfl) rfl ?_
    refine jr.iload_n rfl rfl ?_
    refine jr.tsw_k 5 rfl rfl rfl ?_
    refine jr.aload_n rfl rfl ?_
    refine jr.iload_n rfl rfl ?_
    refine jr.iload_n rfl rfl ?_
    refine jr_v rfl rfl (Or.inl rfl) rfl rfl (by decide) rfl ⟨rfl, Nat.le_of_ble_eq_true rfl, Nat.le_of_ble_eq_true rfl⟩ rfl (jc.deep (r_one hI_M hH_M hS_M (Kp.rfl _) (by omega) (by omega)  (fun r1 z1 w1_0 => ?_)) (by decide))
    refine jr.iconst rfl ?_
    refine jr_s rfl rfl (Or.inl rfl) ⟨Nat.le_of_ble_eq_true rfl, Nat.le_of_ble_eq_true rfl⟩ rfl rfl (jc.deep (r_byNext_x hI_M hH_M hS_M  (by omega) (by omega)  (fun r2 z2 w2_0 => ?_)) (by decide))
    exact jr.ireturn rfl rfl rfl (q _ (by omega) (by simp only [hsN, Int.reduceEq, reduceIte, or_false, false_or, or_true, true_or, or_self]; rw [hb_i (by omega) (by omega)]; unfold rf; rw [← w1_0]; exact w2_0))
  · have lk : lst 6 = 8 := rfl
    have lh : hls 6 = 8 := rfl
    have lr : lsr 6 = 8 := rfl
    refine jc_of (m := xm_265) rfl (Nat.le_of_ble_eq_true rfl) rfl ?_
    refine jr.iload_n rfl rfl ?_
    refine jr.tsw_k 6 rfl rfl rfl ?_
    refine jr.aload_n rfl rfl ?_
    refine jr.iload_n rfl rfl ?_
    refine jr.iload_n rfl rfl ?_
    refine jr.iconst rfl ?_
    refine jr.iadd rfl ?_
    refine jr_v rfl rfl (Or.inl rfl) rfl rfl (by decide) rfl ⟨rfl, Nat.le_of_ble_eq_true rfl, Nat.le_of_ble_eq_true rfl⟩ rfl (jc.deep (r_two_x hI_M hH_M hS_M  (by omega) (by omega)  (fun r1 z1 w1_0 => ?_)) (by decide))
    refine jr.iconst rfl ?_
    refine jr.ishr rfl ?_
    have b2 : j_shr r1 3 = r1 / 8 := j_shr_ex 3 (by decide) (by omega) (by omega)
    generalize j_shr r1 3 = v2 at b2 ⊢
    refine jr.if_le rfl rfl (by omega) (fun h141 => ?_) (fun h141 => ?_)
    · refine jr.aload_n rfl rfl ?_
      refine jr.iload_n rfl rfl ?_
      refine jr.iload_n rfl rfl ?_
      refine jr_v rfl rfl (Or.inl rfl) rfl rfl (by decide) rfl ⟨rfl, Nat.le_of_ble_eq_true rfl, Nat.le_of_ble_eq_true rfl⟩ rfl (jc.deep (r_one hI_M hH_M hS_M (Kp.rfl _) (by omega) (by omega)  (fun r3 z3 w3_0 => ?_)) (by decide))
      refine jr.iconst rfl ?_
      refine jr_s rfl rfl (Or.inl rfl) ⟨Nat.le_of_ble_eq_true rfl, Nat.le_of_ble_eq_true rfl⟩ rfl rfl (jc.deep (r_byNext_x hI_M hH_M hS_M  (by omega) (by omega)  (fun r4 z4 w4_0 => ?_)) (by decide))
      exact jr.ireturn rfl rfl rfl (q _ (by omega) (by simp only [hsN, Int.reduceEq, reduceIte, or_false, false_or, or_true, true_or, or_self]; rw [if_neg (by omega), hb_i (by omega) (by omega)]; unfold rf; rw [← w3_0]; exact w4_0))
    · refine jr.bipush rfl (by decide) ?_
      refine jr.goto rfl rfl ?_
      exact jr.ireturn rfl rfl rfl (q _ (by omega) (by simp only [hsN, Int.reduceEq, reduceIte, or_false, false_or, or_true, true_or, or_self]; rw [if_pos (by omega)]))
  · have lk : lst 7 = 8 := rfl
    have lh : hls 7 = 8 := rfl
    have lr : lsr 7 = 8 := rfl
    refine jc_of (m := xm_265) rfl (Nat.le_of_ble_eq_true rfl) rfl ?_
    refine jr.iload_n rfl rfl ?_
    refine jr.tsw_k 7 rfl rfl rfl ?_
    refine jr.aload_n rfl rfl ?_
    refine jr.iload_n rfl rfl ?_
    refine jr.iload_n rfl rfl ?_
    refine jr_v rfl rfl (Or.inl rfl) rfl rfl (by decide) rfl ⟨rfl, Nat.le_of_ble_eq_true rfl, Nat.le_of_ble_eq_true rfl⟩ rfl (jc.deep (r_one hI_M hH_M hS_M (Kp.rfl _) (by omega) (by omega)  (fun r1 z1 w1_0 => ?_)) (by decide))
    refine jr.iconst rfl ?_
    refine jr.icmp_eq rfl rfl (by omega) (by omega) (fun h167 => ?_) (fun h167 => ?_)
    · refine jr.iload_n rfl rfl ?_
      refine jr.bipush rfl (by decide) ?_
      refine jr.iadd rfl ?_
      refine jr.aload_n rfl rfl ?_
      refine jr.getf (i := 3) (v := .ref 600) rfl rfl (by decide) rfl (by decide) rfl rfl rfl rfl ?_
      refine jr.iload_n rfl rfl ?_
      obtain ⟨v2, e2⟩ : ∃ z, M 600 x = z := ⟨_, rfl⟩
      have b2 : (-1) ≤ v2 ∧ v2 ≤ 400 := by rw [← e2]; exact (by have q := hI_M 600 x (by decide); rw [xri_row rfl rfl] at q; exact q)
      refine jr.iald (i := x) (x := v2) rfl (by decide) rfl (by decide) (by omega) (by omega) e2 ?_
      refine jr.icmp_ge rfl rfl (by omega) (by omega) (fun h191 => ?_) (fun h191 => ?_)
      · refine jr.bipush rfl (by decide) ?_
        exact jr.ireturn rfl rfl rfl (q _ (by omega) (by simp only [hsN, Int.reduceEq, reduceIte, or_false, false_or, or_true, true_or, or_self]; unfold byQ; rw [hb_i (show 0 ≤ a by omega) (show a < M 600 x by omega)]; first | (rw [hb_o (by omega)]; unfold rf; (repeat' split) <;> omega) | (rw [hb_i (by omega) (by omega)]; unfold rf; (repeat' split) <;> omega) | (unfold rf; (repeat' split) <;> omega)))
      · refine jr.aload_n rfl rfl ?_
        refine jr.iload_n rfl rfl ?_
        refine jr.iload_n rfl rfl ?_
        refine jr.bipush rfl (by decide) ?_
        refine jr.iadd rfl ?_
        refine jr_v rfl rfl (Or.inl rfl) rfl rfl (by decide) rfl ⟨rfl, Nat.le_of_ble_eq_true rfl, Nat.le_of_ble_eq_true rfl⟩ rfl (jc.deep (r_one hI_M hH_M hS_M (Kp.rfl _) (by omega) (by omega)  (fun r3 z3 w3_0 => ?_)) (by decide))
        refine jr.iconst rfl ?_
        refine jr.ishr rfl ?_
        have b4 : j_shr r3 4 = r3 / 16 := j_shr_ex 4 (by decide) (by omega) (by omega)
        generalize j_shr r3 4 = v4 at b4 ⊢
        refine jr.istore (ls' := [_, _, _, _, _]) rfl (by decide) rfl ?_
        refine jr.iload rfl rfl ?_
        refine jr.iconst rfl ?_
        refine jr.icmp_ne rfl rfl (by omega) (by omega) (fun h210 => ?_) (fun h210 => ?_)
        · refine jr.iload rfl rfl ?_
          refine jr.bipush rfl (by decide) ?_
          refine jr.icmp_ne rfl rfl (by omega) (by omega) (fun h221 => ?_) (fun h221 => ?_)
          · refine jr.bipush rfl (by decide) ?_
            exact jr.ireturn rfl rfl rfl (q _ (by omega) (by simp only [hsN, Int.reduceEq, reduceIte, or_false, false_or, or_true, true_or, or_self]; unfold byQ; rw [hb_i (show 0 ≤ a by omega) (show a < M 600 x by omega)]; first | (rw [hb_o (by omega)]; unfold rf; (repeat' split) <;> omega) | (rw [hb_i (by omega) (by omega)]; unfold rf; (repeat' split) <;> omega) | (unfold rf; (repeat' split) <;> omega)))
          · refine jr.iconst rfl ?_
            refine jr.goto rfl rfl ?_
            exact jr.ireturn rfl rfl rfl (q _ (by omega) (by simp only [hsN, Int.reduceEq, reduceIte, or_false, false_or, or_true, true_or, or_self]; unfold byQ; rw [hb_i (show 0 ≤ a by omega) (show a < M 600 x by omega)]; first | (rw [hb_o (by omega)]; unfold rf; (repeat' split) <;> omega) | (rw [hb_i (by omega) (by omega)]; unfold rf; (repeat' split) <;> omega) | (unfold rf; (repeat' split) <;> omega)))
        · refine jr.iconst rfl ?_
          refine jr.goto rfl rfl ?_
          exact jr.ireturn rfl rfl rfl (q _ (by omega) (by simp only [hsN, Int.reduceEq, reduceIte, or_false, false_or, or_true, true_or, or_self]; unfold byQ; rw [hb_i (show 0 ≤ a by omega) (show a < M 600 x by omega)]; first | (rw [hb_o (by omega)]; unfold rf; (repeat' split) <;> omega) | (rw [hb_i (by omega) (by omega)]; unfold rf; (repeat' split) <;> omega) | (unfold rf; (repeat' split) <;> omega)))
    · refine jr.aload_n rfl rfl ?_
      refine jr.iload_n rfl rfl ?_
      refine jr.iload_n rfl rfl ?_
      refine jr_v rfl rfl (Or.inl rfl) rfl rfl (by decide) rfl ⟨rfl, Nat.le_of_ble_eq_true rfl, Nat.le_of_ble_eq_true rfl⟩ rfl (jc.deep (r_one hI_M hH_M hS_M (Kp.rfl _) (by omega) (by omega)  (fun r5 z5 w5_0 => ?_)) (by decide))
      refine jr.bipush rfl (by decide) ?_
      refine jr.icmp_ne rfl rfl (by omega) (by omega) (fun h178 => ?_) (fun h178 => ?_)
      · refine jr.bipush rfl (by decide) ?_
        exact jr.ireturn rfl rfl rfl (q _ (by omega) (by simp only [hsN, Int.reduceEq, reduceIte, or_false, false_or, or_true, true_or, or_self]; unfold byQ; rw [hb_i (show 0 ≤ a by omega) (show a < M 600 x by omega)]; first | (rw [hb_o (by omega)]; unfold rf; (repeat' split) <;> omega) | (rw [hb_i (by omega) (by omega)]; unfold rf; (repeat' split) <;> omega) | (unfold rf; (repeat' split) <;> omega)))
      · refine jr.iload_n rfl rfl ?_
        refine jr.bipush rfl (by decide) ?_
        refine jr.iadd rfl ?_
        refine jr.aload_n rfl rfl ?_
        refine jr.getf (i := 3) (v := .ref 600) rfl rfl (by decide) rfl (by decide) rfl rfl rfl rfl ?_
        refine jr.iload_n rfl rfl ?_
        obtain ⟨v6, e6⟩ : ∃ z, M 600 x = z := ⟨_, rfl⟩
        have b6 : (-1) ≤ v6 ∧ v6 ≤ 400 := by rw [← e6]; exact (by have q := hI_M 600 x (by decide); rw [xri_row rfl rfl] at q; exact q)
        refine jr.iald (i := x) (x := v6) rfl (by decide) rfl (by decide) (by omega) (by omega) e6 ?_
        refine jr.icmp_ge rfl rfl (by omega) (by omega) (fun h191 => ?_) (fun h191 => ?_)
        · refine jr.bipush rfl (by decide) ?_
          exact jr.ireturn rfl rfl rfl (q _ (by omega) (by simp only [hsN, Int.reduceEq, reduceIte, or_false, false_or, or_true, true_or, or_self]; unfold byQ; rw [hb_i (show 0 ≤ a by omega) (show a < M 600 x by omega)]; first | (rw [hb_o (by omega)]; unfold rf; (repeat' split) <;> omega) | (rw [hb_i (by omega) (by omega)]; unfold rf; (repeat' split) <;> omega) | (unfold rf; (repeat' split) <;> omega)))
        · refine jr.aload_n rfl rfl ?_
          refine jr.iload_n rfl rfl ?_
          refine jr.iload_n rfl rfl ?_
          refine jr.bipush rfl (by decide) ?_
          refine jr.iadd rfl ?_
          refine jr_v rfl rfl (Or.inl rfl) rfl rfl (by decide) rfl ⟨rfl, Nat.le_of_ble_eq_true rfl, Nat.le_of_ble_eq_true rfl⟩ rfl (jc.deep (r_one hI_M hH_M hS_M (Kp.rfl _) (by omega) (by omega)  (fun r7 z7 w7_0 => ?_)) (by decide))
          refine jr.iconst rfl ?_
          refine jr.ishr rfl ?_
          have b8 : j_shr r7 4 = r7 / 16 := j_shr_ex 4 (by decide) (by omega) (by omega)
          generalize j_shr r7 4 = v8 at b8 ⊢
          refine jr.istore (ls' := [_, _, _, _, _]) rfl (by decide) rfl ?_
          refine jr.iload rfl rfl ?_
          refine jr.iconst rfl ?_
          refine jr.icmp_ne rfl rfl (by omega) (by omega) (fun h210 => ?_) (fun h210 => ?_)
          · refine jr.iload rfl rfl ?_
            refine jr.bipush rfl (by decide) ?_
            refine jr.icmp_ne rfl rfl (by omega) (by omega) (fun h221 => ?_) (fun h221 => ?_)
            · refine jr.bipush rfl (by decide) ?_
              exact jr.ireturn rfl rfl rfl (q _ (by omega) (by simp only [hsN, Int.reduceEq, reduceIte, or_false, false_or, or_true, true_or, or_self]; unfold byQ; rw [hb_i (show 0 ≤ a by omega) (show a < M 600 x by omega)]; first | (rw [hb_o (by omega)]; unfold rf; (repeat' split) <;> omega) | (rw [hb_i (by omega) (by omega)]; unfold rf; (repeat' split) <;> omega) | (unfold rf; (repeat' split) <;> omega)))
            · refine jr.iconst rfl ?_
              refine jr.goto rfl rfl ?_
              exact jr.ireturn rfl rfl rfl (q _ (by omega) (by simp only [hsN, Int.reduceEq, reduceIte, or_false, false_or, or_true, true_or, or_self]; unfold byQ; rw [hb_i (show 0 ≤ a by omega) (show a < M 600 x by omega)]; first | (rw [hb_o (by omega)]; unfold rf; (repeat' split) <;> omega) | (rw [hb_i (by omega) (by omega)]; unfold rf; (repeat' split) <;> omega) | (unfold rf; (repeat' split) <;> omega)))
          · refine jr.iconst rfl ?_
            refine jr.goto rfl rfl ?_
            exact jr.ireturn rfl rfl rfl (q _ (by omega) (by simp only [hsN, Int.reduceEq, reduceIte, or_false, false_or, or_true, true_or, or_self]; unfold byQ; rw [hb_i (show 0 ≤ a by omega) (show a < M 600 x by omega)]; first | (rw [hb_o (by omega)]; unfold rf; (repeat' split) <;> omega) | (rw [hb_i (by omega) (by omega)]; unfold rf; (repeat' split) <;> omega) | (unfold rf; (repeat' split) <;> omega)))
  · have lk : lst 8 = 20 := rfl
    have lh : hls 8 = 20 := rfl
    have lr : lsr 8 = 20 := rfl
    refine jc_of (m := xm_265) rfl (Nat.le_of_ble_eq_true rfl) rfl ?_
    refine jr.iload_n rfl rfl ?_
    refine jr.tsw_k 8 rfl rfl rfl ?_
    refine jr.bipush rfl (by decide) ?_
    exact jr.ireturn rfl rfl rfl (q _ (by omega) rfl)
  · have lk : lst 9 = 8 := rfl
    have lh : hls 9 = 8 := rfl
    have lr : lsr 9 = 8 := rfl
    refine jc_of (m := xm_265) rfl (Nat.le_of_ble_eq_true rfl) rfl ?_
    refine jr.iload_n rfl rfl ?_
    refine jr.tsw_k 9 rfl rfl rfl ?_
    refine jr.bipush rfl (by decide) ?_
    exact jr.ireturn rfl rfl rfl (q _ (by omega) rfl)
  · have lk : lst 10 = 4 := rfl
    have lh : hls 10 = 4 := rfl
    have lr : lsr 10 = 4 := rfl
    refine jc_of (m := xm_265) rfl (Nat.le_of_ble_eq_true rfl) rfl ?_
    refine jr.iload_n rfl rfl ?_
    refine jr.tsw_k 10 rfl rfl rfl ?_
    refine jr.aload_n rfl rfl ?_
    refine jr.iload_n rfl rfl ?_
    refine jr.iload_n rfl rfl ?_
    refine jr.iconst rfl ?_
    refine jr.iadd rfl ?_
    refine jr_v rfl rfl (Or.inl rfl) rfl rfl (by decide) rfl ⟨rfl, Nat.le_of_ble_eq_true rfl, Nat.le_of_ble_eq_true rfl⟩ rfl (jc.deep (r_two_x hI_M hH_M hS_M  (by omega) (by omega)  (fun r1 z1 w1_0 => ?_)) (by decide))
    refine jr_s rfl rfl (Or.inl rfl) ⟨Nat.le_of_ble_eq_true rfl, Nat.le_of_ble_eq_true rfl⟩ rfl rfl (jc.deep (r_byKind_x hI_M hH_M hS_M  (by omega)  (fun r2 z2 w2_0 => ?_)) (by decide))
    exact jr.ireturn rfl rfl rfl (q _ (by omega) (by simp only [hsN, Int.reduceEq, reduceIte, or_false, false_or, or_true, true_or, or_self]; rw [← w1_0]; exact w2_0))
