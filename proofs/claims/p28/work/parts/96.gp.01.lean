theorem r_gather_L345_x {A : Nat → Option (Nat × (Nat → Int32))} {Q : Option Value → jm → Prop} {M0 : jm} {x0 : Int} (q : ∀ (r : Int) (M' : jm), RI M' → RH M' → RF M' → (-5) ≤ r ∧ r ≤ 23 → RG1 M' → GAR M0 M' x0 r → (∀ (a : Nat) (i : Int), a ≠ 598 → a ≠ 600 → a ≠ 601 → a ≠ 602 → a ≠ 603 → a ≠ 604 → a ≠ 605 → a ≠ 606 → a ≠ 607 → a ≠ 608 → a ≠ 609 → a ≠ 610 → a ≠ 611 → a ≠ 612 → a ≠ 613 → a ≠ 614 → a ≠ 615 → a ≠ 616 → a ≠ 617 → a ≠ 618 → a ≠ 619 → a ≠ 620 → a ≠ 621 → a ≠ 622 → M' a i = M0 a i) → (∀ (i : Int), i ≠ 6 → i ≠ 10 → i ≠ 11 → i ≠ 12 → i ≠ 34 → M' 598 i = M0 598 i) → Q (some (.int (Int32.ofInt r))) M') : ∀ (M : jm) (i : Int) (g : Int) (a : Int) (b : Int) (d : Int) (e : Int) (m : Int) (o : Int) (c : Int) (f : Int) (t : Int) (k : Int) (h : Int) (x : Int), RI M → RH M → RF M → (∀ (a : Nat) (i : Int), a ≠ 598 → a ≠ 600 → a ≠ 601 → a ≠ 602 → a ≠ 603 → a ≠ 604 → a ≠ 605 → a ≠ 606 → a ≠ 607 → a ≠ 608 → a ≠ 609 → a ≠ 610 → a ≠ 611 → a ≠ 612 → a ≠ 613 → a ≠ 614 → a ≠ 615 → a ≠ 616 → a ≠ 617 → a ≠ 618 → a ≠ 619 → a ≠ 620 → a ≠ 621 → a ≠ 622 → M a i = M0 a i) → (∀ (i : Int), i ≠ 6 → i ≠ 10 → i ≠ 11 → i ≠ 12 → i ≠ 34 → M 598 i = M0 598 i) → 0 ≤ i ∧ i ≤ 1 → (-1) ≤ g ∧ g ≤ 7 → (-9223372036854775808) ≤ a ∧ a ≤ 9223372036854775807 → (-9223372036854775808) ≤ b ∧ b ≤ 9223372036854775807 → (-9223372036854775808) ≤ d ∧ d ≤ 9223372036854775807 → 0 ≤ e ∧ e ≤ 255 → 0 ≤ m ∧ m ≤ 1 → 0 ≤ o ∧ o ≤ 65528 → 0 ≤ c ∧ c ≤ 400 → 0 ≤ f ∧ f ≤ 400 → 0 ≤ t ∧ t ≤ 11 → 0 ≤ k ∧ k ≤ 11 → 0 ≤ h ∧ h ≤ 11 → 0 ≤ x ∧ x ≤ 23 → RG1 M → KT M o c f t k h x → (g = -1 ∨ (0 ≤ g ∧ M 606 g ≠ 0 ∧ M 607 g = k)) → PX1 M0 M x h t k (hY (rf M0 x) (M0 600 x) h) → (o = ofs (rf M0 x) (M0 600 x) (M 598 6) h ∧ c = M0 600 x - enf (rf M0 x) (M0 600 x) (M 598 6) h ∧ f = enf (rf M0 x) (M0 600 x) (M 598 6) h) → GQ6 M → (m = mrf (rf M0 x) (M0 600 x) (M 598 6) h ∧ e = vA (rf M0 x) (M0 600 x) (M 598 6) h (if kA (rf M0 x) (M0 600 x) (M 598 6) h = 2 then 7 else 0)) → (b = adf (rf M0 x) (M0 600 x) (M 598 6) t 0 ∧ d = vA (rf M0 x) (M0 600 x) (M 598 6) h 3 ∧ a = adf (rf M0 x) (M0 600 x) (M 598 6) t 1) → g = g6 M (rf M0 x) (M0 600 x) (M 598 6) h → ((i = 1 ∧ m ≠ 1 ∧ fst6 M (rf M0 x) (M0 600 x) (M 598 6) h = 1) ∨ (i = 0 ∧ ¬ (m ≠ 1 ∧ fst6 M (rf M0 x) (M0 600 x) (M 598 6) h = 1))) → x = x0 → jr A 5 xm_292 345 [(19, .int (Int32.ofInt (i))), (18, .int (Int32.ofInt (g))), (16, .long (Int64.ofInt (a))), (14, .long (Int64.ofInt (b))), (12, .long (Int64.ofInt (d))), (11, .int (Int32.ofInt (e))), (10, .int (Int32.ofInt (m))), (9, .int (Int32.ofInt (o))), (8, .int (Int32.ofInt (c))), (7, .int (Int32.ofInt (f))), (5, .int (Int32.ofInt (t))), (3, .int (Int32.ofInt (k))), (2, .int (Int32.ofInt (h))), (1, .int (Int32.ofInt (x))), (0, .ref (598))] [] M Q := by
    intro M i g a b d e m o c f t k h x hI_M hH_M hS_M hF_M hG_M h_i h_g h_a h_b h_d h_e h_m h_o h_c h_f h_t h_k h_h h_x hy0 hy1 hy2 hy3 hy4 hy5 hy6 hy7 hy8 hy9 hy10
    subst hy10
    have hG1 := hy0
    have kt := hy1
    obtain ⟨t1, t2, t3, t4, t5, t6⟩ := hy1
    refine jr.iload rfl rfl ?_
    refine jr.if_eq rfl rfl (by omega) (fun h347 => ?_) (fun h347 => ?_)
    · refine jr.bipush rfl (by decide) ?_
      exact jr.ireturn rfl rfl rfl (q _ _ hI_M hH_M hS_M  (by omega) hG1 (hy3.r (by have h9 := hy9; have h41 := hy4.1; have h42 := hy4.2.1; have h61 := hy6.1; unfold rfq; rw [← h42, ← h61, ← h41]; omega) (by omega)) (fun a i f598 f600 f601 f602 f603 f604 f605 f606 f607 f608 f609 f610 f611 f612 f613 f614 f615 f616 f617 f618 f619 f620 f621 f622 => (hF_M a i f598 f600 f601 f602 f603 f604 f605 f606 f607 f608 f609 f610 f611 f612 f613 f614 f615 f616 f617 f618 f619 f620 f621 f622)) (fun i g6 g10 g11 g12 g34 => (hG_M i g6 g10 g11 g12 g34)))
    · have sx347 : (1 : Int) ≤ c := by omega
      refine jr.iload rfl rfl ?_
      refine jr.if_eq rfl rfl (by omega) (fun h352 => ?_) (fun h352 => ?_)
      · refine jr.iload rfl rfl ?_
        refine jr.if_eq rfl rfl (by omega) (fun h365 => ?_) (fun h365 => ?_)
        · refine jr.iload rfl rfl ?_
          refine jr.iconst rfl ?_
          refine jr.icmp_ne rfl rfl (by omega) (by omega) (fun h385 => ?_) (fun h385 => ?_)
          · have sx385 : (0 : Int) ≤ g := by omega
            obtain ⟨v1, e1⟩ : ∃ z, M 606 g = z := ⟨_, rfl⟩
            have b1 : 0 ≤ v1 ∧ v1 ≤ 1 := by rw [← e1]; exact (by have q := hI_M 606 g (by decide); rw [xri_row rfl rfl] at q; exact q)
            obtain ⟨v2, e2⟩ : ∃ z, M 607 g = z := ⟨_, rfl⟩
            have b2 : 0 ≤ v2 ∧ v2 ≤ 11 := by rw [← e2]; exact (by have q := hI_M 607 g (by decide); rw [xri_row rfl rfl] at q; exact q)
            refine jr.pick [0, 1, 7, 8, 9, 10, 11, 12, 13, 14] rfl rfl ?_
            exact r_gather_L418_x q M i g o c f t k h x hI_M hH_M hS_M  (fun a i f598 f600 f601 f602 f603 f604 f605 f606 f607 f608 f609 f610 f611 f612 f613 f614 f615 f616 f617 f618 f619 f620 f621 f622 => (hF_M a i f598 f600 f601 f602 f603 f604 f605 f606 f607 f608 f609 f610 f611 f612 f613 f614 f615 f616 f617 f618 f619 f620 f621 f622)) (fun i g6 g10 g11 g12 g34 => (hG_M i g6 g10 g11 g12 g34)) (by omega) (by omega) (by omega) (by omega) (by omega) (by omega) (by omega) (by omega) (by omega) hG1 (KT.fr kt (fun i => rfl) (fun i => rfl) (fun i => rfl)) (by rw [e1, e2] <;> omega) (by omega) ⟨M, hy3, hy4, (show ¬ rfq (rf M0 x) (M0 600 x) (M 598 6) h (fst6 M (rf M0 x) (M0 600 x) (M 598 6) h) from by have h9 := hy9; have h41 := hy4.1; have h42 := hy4.2.1; have h61 := hy6.1; unfold rfq; rw [← h42, ← h61, ← h41]; omega), (by rw [← hy6.1]; exact hy9), Or.inl ⟨by rw [← hy8]; omega, hy8, rfl⟩⟩ (hy5 g (by omega) (by omega) ((hy2.resolve_left (by omega)).2.1)) (by omega)
          · refine jr.aload_n rfl rfl ?_
            refine jr_v rfl rfl (Or.inl rfl) rfl rfl (by decide) rfl ⟨rfl, Nat.le_of_ble_eq_true rfl, Nat.le_of_ble_eq_true rfl⟩ rfl (jc.deep (r_freeGathering_x hI_M hH_M hS_M    (fun r3 z3 w3_0 => ?_)) (by decide))
            refine jr.istore rfl (by decide) rfl ?_
            refine jr.iload rfl rfl ?_
            refine jr.iconst rfl ?_
            refine jr.icmp_ne rfl rfl (by omega) (by omega) (fun h397 => ?_) (fun h397 => ?_)
            · have sx397 : (0 : Int) ≤ r3 := by omega
              refine jr.aload_n rfl rfl ?_
              refine jr.iload rfl rfl ?_
              refine jr.iload_n rfl rfl ?_
              refine jr.lload rfl rfl ?_
              refine jr.lload rfl rfl ?_
              refine jr.lload rfl rfl ?_
              refine jr.iload rfl rfl ?_
              refine jr_v rfl rfl (Or.inl rfl) rfl rfl (by decide) rfl ⟨rfl, Nat.le_of_ble_eq_true rfl, Nat.le_of_ble_eq_true rfl⟩ rfl (jc.deep (r_beginGathering_x hI_M hH_M hS_M  (by omega) (by omega) (by omega) (by omega) (by omega) (by omega) hG1 (fun M4 hI_M4 hH_M4 hS_M4  w4_0 w4_1 w4_2 w4_3 w4_4 w4_5 w4_6 w4_7 w4_8 w4_9 w4_10 w4_11 w4_12 w4_13 w4_14 => ?_)) (by decide))
              obtain ⟨v5, e5⟩ : ∃ z, M4 606 r3 = z := ⟨_, rfl⟩
              have b5 : 0 ≤ v5 ∧ v5 ≤ 1 := by rw [← e5]; exact (by have q := hI_M4 606 r3 (by decide); rw [xri_row rfl rfl] at q; exact q)
              obtain ⟨v6, e6⟩ : ∃ z, M4 607 r3 = z := ⟨_, rfl⟩
              have b6 : 0 ≤ v6 ∧ v6 ≤ 11 := by rw [← e6]; exact (by have q := hI_M4 607 r3 (by decide); rw [xri_row rfl rfl] at q; exact q)
              refine jr.pick [1, 0, 7, 8, 9, 10, 11, 12, 13, 14] rfl rfl ?_
              exact r_gather_L418_x q M4 i r3 o c f t k h x hI_M4 hH_M4 hS_M4  (fun a i f598 f600 f601 f602 f603 f604 f605 f606 f607 f608 f609 f610 f611 f612 f613 f614 f615 f616 f617 f618 f619 f620 f621 f622 => ((w4_14 a i f606 f607 f608 f609 f610 f611 f612 f613 f614 f616 f617).trans (hF_M a i f598 f600 f601 f602 f603 f604 f605 f606 f607 f608 f609 f610 f611 f612 f613 f614 f615 f616 f617 f618 f619 f620 f621 f622))) (fun i g6 g10 g11 g12 g34 => ((w4_14 598 i (by decide) (by decide) (by decide) (by decide) (by decide) (by decide) (by decide) (by decide) (by decide) (by decide) (by decide)).trans (hG_M i g6 g10 g11 g12 g34))) (by omega) (by omega) (by omega) (by omega) (by omega) (by omega) (by omega) (by omega) (by omega) w4_0 (KT.fr kt (fun i => (w4_14 601 i (by decide) (by decide) (by decide) (by decide) (by decide) (by decide) (by decide) (by decide) (by decide) (by decide) (by decide)).trans ((fun i => rfl) i)) (fun i => (w4_14 604 i (by decide) (by decide) (by decide) (by decide) (by decide) (by decide) (by decide) (by decide) (by decide) (by decide) (by decide)).trans ((fun i => rfl) i)) (fun i => (w4_14 605 i (by decide) (by decide) (by decide) (by decide) (by decide) (by decide) (by decide) (by decide) (by decide) (by decide) (by decide)).trans ((fun i => rfl) i))) (by rw [e5, e6] <;> omega) (by omega) ⟨M, hy3, hy4, (show ¬ rfq (rf M0 x) (M0 600 x) (M 598 6) h (fst6 M (rf M0 x) (M0 600 x) (M 598 6) h) from by have h9 := hy9; have h41 := hy4.1; have h42 := hy4.2.1; have h61 := hy6.1; unfold rfq; rw [← h42, ← h61, ← h41]; omega), (by rw [← hy6.1]; exact hy9), Or.inr ⟨by rw [← hy8]; omega, w3_0, by omega, (by rw [← hy3.2.2.2.1, ← hy3.2.2.2.2.1, ← hy7.1, ← hy7.2.2, ← hy7.2.1, ← hy6.2]; exact ⟨⟨w4_1, w4_2, w4_3, w4_4, w4_5, w4_6, w4_7, w4_8, w4_9⟩, w4_10, w4_11, w4_12, w4_13, fun b0 j hb => w4_14 b0 j (by omega) (by omega) (by omega) (by omega) (by omega) (by omega) (by omega) (by omega) (by omega) (by omega) (by omega)⟩)⟩⟩ (Or.inl ⟨w4_3, Or.inl w4_5⟩) (by omega)
            · refine jr.bipush rfl (by decide) ?_
              exact jr.ireturn rfl rfl rfl (q _ _ hI_M hH_M hS_M  (by omega) hG1 (hy3.f (show ¬ rfq (rf M0 x) (M0 600 x) (M 598 6) h (fst6 M (rf M0 x) (M0 600 x) (M 598 6) h) from by have h9 := hy9; have h41 := hy4.1; have h42 := hy4.2.1; have h61 := hy6.1; unfold rfq; rw [← h42, ← h61, ← h41]; omega) (by rw [← hy8]; omega) (by rw [← w3_0]; omega) (by omega)) (fun a i f598 f600 f601 f602 f603 f604 f605 f606 f607 f608 f609 f610 f611 f612 f613 f614 f615 f616 f617 f618 f619 f620 f621 f622 => (hF_M a i f598 f600 f601 f602 f603 f604 f605 f606 f607 f608 f609 f610 f611 f612 f613 f614 f615 f616 f617 f618 f619 f620 f621 f622)) (fun i g6 g10 g11 g12 g34 => (hG_M i g6 g10 g11 g12 g34)))
        · have sx365 : (1 : Int) ≤ i := by omega
          refine jr.iload rfl rfl ?_
          refine jr.iload rfl rfl ?_
          refine jr.iadd rfl ?_
          refine jr.sipush rfl (by decide) ?_
          refine jr.icmp_le rfl rfl (by omega) (by omega) (fun h376 => ?_) (fun h376 => ?_)
          · refine jr.iload rfl rfl ?_
            refine jr.iconst rfl ?_
            refine jr.icmp_ne rfl rfl (by omega) (by omega) (fun h385 => ?_) (fun h385 => ?_)
            · have sx385 : (0 : Int) ≤ g := by omega
              obtain ⟨v7, e7⟩ : ∃ z, M 606 g = z := ⟨_, rfl⟩
              have b7 : 0 ≤ v7 ∧ v7 ≤ 1 := by rw [← e7]; exact (by have q := hI_M 606 g (by decide); rw [xri_row rfl rfl] at q; exact q)
              obtain ⟨v8, e8⟩ : ∃ z, M 607 g = z := ⟨_, rfl⟩
              have b8 : 0 ≤ v8 ∧ v8 ≤ 11 := by rw [← e8]; exact (by have q := hI_M 607 g (by decide); rw [xri_row rfl rfl] at q; exact q)
              refine jr.pick [0, 1, 7, 8, 9, 10, 11, 12, 13, 14] rfl rfl ?_
              exact r_gather_L418_x q M i g o c f t k h x hI_M hH_M hS_M  (fun a i f598 f600 f601 f602 f603 f604 f605 f606 f607 f608 f609 f610 f611 f612 f613 f614 f615 f616 f617 f618 f619 f620 f621 f622 => (hF_M a i f598 f600 f601 f602 f603 f604 f605 f606 f607 f608 f609 f610 f611 f612 f613 f614 f615 f616 f617 f618 f619 f620 f621 f622)) (fun i g6 g10 g11 g12 g34 => (hG_M i g6 g10 g11 g12 g34)) (by omega) (by omega) (by omega) (by omega) (by omega) (by omega) (by omega) (by omega) (by omega) hG1 (KT.fr kt (fun i => rfl) (fun i => rfl) (fun i => rfl)) (by rw [e7, e8] <;> omega) (by omega) ⟨M, hy3, hy4, (show ¬ rfq (rf M0 x) (M0 600 x) (M 598 6) h (fst6 M (rf M0 x) (M0 600 x) (M 598 6) h) from by have h9 := hy9; have h41 := hy4.1; have h42 := hy4.2.1; have h61 := hy6.1; unfold rfq; rw [← h42, ← h61, ← h41]; omega), (by rw [← hy6.1]; exact hy9), Or.inl ⟨by rw [← hy8]; omega, hy8, rfl⟩⟩ (hy5 g (by omega) (by omega) ((hy2.resolve_left (by omega)).2.1)) (by omega)
            · refine jr.aload_n rfl rfl ?_
              refine jr_v rfl rfl (Or.inl rfl) rfl rfl (by decide) rfl ⟨rfl, Nat.le_of_ble_eq_true rfl, Nat.le_of_ble_eq_true rfl⟩ rfl (jc.deep (r_freeGathering_x hI_M hH_M hS_M    (fun r9 z9 w9_0 => ?_)) (by decide))
              refine jr.istore rfl (by decide) rfl ?_
              refine jr.iload rfl rfl ?_
              refine jr.iconst rfl ?_
              refine jr.icmp_ne rfl rfl (by omega) (by omega) (fun h397 => ?_) (fun h397 => ?_)
              · have sx397 : (0 : Int) ≤ r9 := by omega
                refine jr.aload_n rfl rfl ?_
                refine jr.iload rfl rfl ?_
                refine jr.iload_n rfl rfl ?_
                refine jr.lload rfl rfl ?_
                refine jr.lload rfl rfl ?_
                refine jr.lload rfl rfl ?_
                refine jr.iload rfl rfl ?_
                refine jr_v rfl rfl (Or.inl rfl) rfl rfl (by decide) rfl ⟨rfl, Nat.le_of_ble_eq_true rfl, Nat.le_of_ble_eq_true rfl⟩ rfl (jc.deep (r_beginGathering_x hI_M hH_M hS_M  (by omega) (by omega) (by omega) (by omega) (by omega) (by omega) hG1 (fun M10 hI_M10 hH_M10 hS_M10  w10_0 w10_1 w10_2 w10_3 w10_4 w10_5 w10_6 w10_7 w10_8 w10_9 w10_10 w10_11 w10_12 w10_13 w10_14 => ?_)) (by decide))
                obtain ⟨v11, e11⟩ : ∃ z, M10 606 r9 = z := ⟨_, rfl⟩
                have b11 : 0 ≤ v11 ∧ v11 ≤ 1 := by rw [← e11]; exact (by have q := hI_M10 606 r9 (by decide); rw [xri_row rfl rfl] at q; exact q)
                obtain ⟨v12, e12⟩ : ∃ z, M10 607 r9 = z := ⟨_, rfl⟩
                have b12 : 0 ≤ v12 ∧ v12 ≤ 11 := by rw [← e12]; exact (by have q := hI_M10 607 r9 (by decide); rw [xri_row rfl rfl] at q; exact q)
                refine jr.pick [1, 0, 7, 8, 9, 10, 11, 12, 13, 14] rfl rfl ?_
                exact r_gather_L418_x q M10 i r9 o c f t k h x hI_M10 hH_M10 hS_M10  (fun a i f598 f600 f601 f602 f603 f604 f605 f606 f607 f608 f609 f610 f611 f612 f613 f614 f615 f616 f617 f618 f619 f620 f621 f622 => ((w10_14 a i f606 f607 f608 f609 f610 f611 f612 f613 f614 f616 f617).trans (hF_M a i f598 f600 f601 f602 f603 f604 f605 f606 f607 f608 f609 f610 f611 f612 f613 f614 f615 f616 f617 f618 f619 f620 f621 f622))) (fun i g6 g10 g11 g12 g34 => ((w10_14 598 i (by decide) (by decide) (by decide) (by decide) (by decide) (by decide) (by decide) (by decide) (by decide) (by decide) (by decide)).trans (hG_M i g6 g10 g11 g12 g34))) (by omega) (by omega) (by omega) (by omega) (by omega) (by omega) (by omega) (by omega) (by omega) w10_0 (KT.fr kt (fun i => (w10_14 601 i (by decide) (by decide) (by decide) (by decide) (by decide) (by decide) (by decide) (by decide) (by decide) (by decide) (by decide)).trans ((fun i => rfl) i)) (fun i => (w10_14 604 i (by decide) (by decide) (by decide) (by decide) (by decide) (by decide) (by decide) (by decide) (by decide) (by decide) (by decide)).trans ((fun i => rfl) i)) (fun i => (w10_14 605 i (by decide) (by decide) (by decide) (by decide) (by decide) (by decide) (by decide) (by decide) (by decide) (by decide) (by decide)).trans ((fun i => rfl) i))) (by rw [e11, e12] <;> omega) (by omega) ⟨M, hy3, hy4, (show ¬ rfq (rf M0 x) (M0 600 x) (M 598 6) h (fst6 M (rf M0 x) (M0 600 x) (M 598 6) h) from by have h9 := hy9; have h41 := hy4.1; have h42 := hy4.2.1; have h61 := hy6.1; unfold rfq; rw [← h42, ← h61, ← h41]; omega), (by rw [← hy6.1]; exact hy9), Or.inr ⟨by rw [← hy8]; omega, w9_0, by omega, (by rw [← hy3.2.2.2.1, ← hy3.2.2.2.2.1, ← hy7.1, ← hy7.2.2, ← hy7.2.1, ← hy6.2]; exact ⟨⟨w10_1, w10_2, w10_3, w10_4, w10_5, w10_6, w10_7, w10_8, w10_9⟩, w10_10, w10_11, w10_12, w10_13, fun b0 j hb => w10_14 b0 j (by omega) (by omega) (by omega) (by omega) (by omega) (by omega) (by omega) (by omega) (by omega) (by omega) (by omega)⟩)⟩⟩ (Or.inl ⟨w10_3, Or.inl w10_5⟩) (by omega)
              · refine jr.bipush rfl (by decide) ?_
                exact jr.ireturn rfl rfl rfl (q _ _ hI_M hH_M hS_M  (by omega) hG1 (hy3.f (show ¬ rfq (rf M0 x) (M0 600 x) (M 598 6) h (fst6 M (rf M0 x) (M0 600 x) (M 598 6) h) from by have h9 := hy9; have h41 := hy4.1; have h42 := hy4.2.1; have h61 := hy6.1; unfold rfq; rw [← h42, ← h61, ← h41]; omega) (by rw [← hy8]; omega) (by rw [← w9_0]; omega) (by omega)) (fun a i f598 f600 f601 f602 f603 f604 f605 f606 f607 f608 f609 f610 f611 f612 f613 f614 f615 f616 f617 f618 f619 f620 f621 f622 => (hF_M a i f598 f600 f601 f602 f603 f604 f605 f606 f607 f608 f609 f610 f611 f612 f613 f614 f615 f616 f617 f618 f619 f620 f621 f622)) (fun i g6 g10 g11 g12 g34 => (hG_M i g6 g10 g11 g12 g34)))
          · refine jr.bipush rfl (by decide) ?_
            exact jr.ireturn rfl rfl rfl (q _ _ hI_M hH_M hS_M  (by omega) hG1 (hy3.r (by have h9 := hy9; have h41 := hy4.1; have h42 := hy4.2.1; have h61 := hy6.1; unfold rfq; rw [← h42, ← h61, ← h41]; omega) (by omega)) (fun a i f598 f600 f601 f602 f603 f604 f605 f606 f607 f608 f609 f610 f611 f612 f613 f614 f615 f616 f617 f618 f619 f620 f621 f622 => (hF_M a i f598 f600 f601 f602 f603 f604 f605 f606 f607 f608 f609 f610 f611 f612 f613 f614 f615 f616 f617 f618 f619 f620 f621 f622)) (fun i g6 g10 g11 g12 g34 => (hG_M i g6 g10 g11 g12 g34)))
      · have sx352 : (1 : Int) ≤ m := by omega
        refine jr.iload rfl rfl ?_
        refine jr.bipush rfl (by decide) ?_
        refine jr.irem rfl (by decide) ?_
        have b13 : j_rem c 8 = c % 8 := j_rem_ex (by omega) (by omega)
        generalize j_rem c 8 = v13 at b13 ⊢
        refine jr.if_ne rfl rfl (by omega) (fun h360 => ?_) (fun h360 => ?_)
        · have sx360 : (1 : Int) ≤ v13 := by omega
          refine jr.bipush rfl (by decide) ?_
          exact jr.ireturn rfl rfl rfl (q _ _ hI_M hH_M hS_M  (by omega) hG1 (hy3.r (by have h9 := hy9; have h41 := hy4.1; have h42 := hy4.2.1; have h61 := hy6.1; unfold rfq; rw [← h42, ← h61, ← h41]; omega) (by omega)) (fun a i f598 f600 f601 f602 f603 f604 f605 f606 f607 f608 f609 f610 f611 f612 f613 f614 f615 f616 f617 f618 f619 f620 f621 f622 => (hF_M a i f598 f600 f601 f602 f603 f604 f605 f606 f607 f608 f609 f610 f611 f612 f613 f614 f615 f616 f617 f618 f619 f620 f621 f622)) (fun i g6 g10 g11 g12 g34 => (hG_M i g6 g10 g11 g12 g34)))
        · refine jr.iload rfl rfl ?_
          refine jr.if_eq rfl rfl (by omega) (fun h365 => ?_) (fun h365 => ?_)
          · refine jr.iload rfl rfl ?_
            refine jr.iconst rfl ?_
            refine jr.icmp_ne rfl rfl (by omega) (by omega) (fun h385 => ?_) (fun h385 => ?_)
            · have sx385 : (0 : Int) ≤ g := by omega
              obtain ⟨v14, e14⟩ : ∃ z, M 606 g = z := ⟨_, rfl⟩
              have b14 : 0 ≤ v14 ∧ v14 ≤ 1 := by rw [← e14]; exact (by have q := hI_M 606 g (by decide); rw [xri_row rfl rfl] at q; exact q)
              obtain ⟨v15, e15⟩ : ∃ z, M 607 g = z := ⟨_, rfl⟩
              have b15 : 0 ≤ v15 ∧ v15 ≤ 11 := by rw [← e15]; exact (by have q := hI_M 607 g (by decide); rw [xri_row rfl rfl] at q; exact q)
              refine jr.pick [0, 1, 7, 8, 9, 10, 11, 12, 13, 14] rfl rfl ?_
              exact r_gather_L418_x q M i g o c f t k h x hI_M hH_M hS_M  (fun a i f598 f600 f601 f602 f603 f604 f605 f606 f607 f608 f609 f610 f611 f612 f613 f614 f615 f616 f617 f618 f619 f620 f621 f622 => (hF_M a i f598 f600 f601 f602 f603 f604 f605 f606 f607 f608 f609 f610 f611 f612 f613 f614 f615 f616 f617 f618 f619 f620 f621 f622)) (fun i g6 g10 g11 g12 g34 => (hG_M i g6 g10 g11 g12 g34)) (by omega) (by omega) (by omega) (by omega) (by omega) (by omega) (by omega) (by omega) (by omega) hG1 (KT.fr kt (fun i => rfl) (fun i => rfl) (fun i => rfl)) (by rw [e14, e15] <;> omega) (by omega) ⟨M, hy3, hy4, (show ¬ rfq (rf M0 x) (M0 600 x) (M 598 6) h (fst6 M (rf M0 x) (M0 600 x) (M 598 6) h) from by have h9 := hy9; have h41 := hy4.1; have h42 := hy4.2.1; have h61 := hy6.1; unfold rfq; rw [← h42, ← h61, ← h41]; omega), (by rw [← hy6.1]; exact hy9), Or.inl ⟨by rw [← hy8]; omega, hy8, rfl⟩⟩ (hy5 g (by omega) (by omega) ((hy2.resolve_left (by omega)).2.1)) (by omega)
            · refine jr.aload_n rfl rfl ?_
              refine jr_v rfl rfl (Or.inl rfl) rfl rfl (by decide) rfl ⟨rfl, Nat.le_of_ble_eq_true rfl, Nat.le_of_ble_eq_true rfl⟩ rfl (jc.deep (r_freeGathering_x hI_M hH_M hS_M    (fun r16 z16 w16_0 => ?_)) (by decide))
              refine jr.istore rfl (by decide) rfl ?_
              refine jr.iload rfl rfl ?_
              refine jr.iconst rfl ?_
              refine jr.icmp_ne rfl rfl (by omega) (by omega) (fun h397 => ?_) (fun h397 => ?_)
              · have sx397 : (0 : Int) ≤ r16 := by omega
                refine jr.aload_n rfl rfl ?_
                refine jr.iload rfl rfl ?_
                refine jr.iload_n rfl rfl ?_
                refine jr.lload rfl rfl ?_
                refine jr.lload rfl rfl ?_
                refine jr.lload rfl rfl ?_
                refine jr.iload rfl rfl ?_
                refine jr_v rfl rfl (Or.inl rfl) rfl rfl (by decide) rfl ⟨rfl, Nat.le_of_ble_eq_true rfl, Nat.le_of_ble_eq_true rfl⟩ rfl (jc.deep (r_beginGathering_x hI_M hH_M hS_M  (by omega) (by omega) (by omega) (by omega) (by omega) (by omega) hG1 (fun M17 hI_M17 hH_M17 hS_M17  w17_0 w17_1 w17_2 w17_3 w17_4 w17_5 w17_6 w17_7 w17_8 w17_9 w17_10 w17_11 w17_12 w17_13 w17_14 => ?_)) (by decide))
                obtain ⟨v18, e18⟩ : ∃ z, M17 606 r16 = z := ⟨_, rfl⟩
                have b18 : 0 ≤ v18 ∧ v18 ≤ 1 := by rw [← e18]; exact (by have q := hI_M17 606 r16 (by decide); rw [xri_row rfl rfl] at q; exact q)
                obtain ⟨v19, e19⟩ : ∃ z, M17 607 r16 = z := ⟨_, rfl⟩
                have b19 : 0 ≤ v19 ∧ v19 ≤ 11 := by rw [← e19]; exact (by have q := hI_M17 607 r16 (by decide); rw [xri_row rfl rfl] at q; exact q)
                refine jr.pick [1, 0, 7, 8, 9, 10, 11, 12, 13, 14] rfl rfl ?_
                exact r_gather_L418_x q M17 i r16 o c f t k h x hI_M17 hH_M17 hS_M17  (fun a i f598 f600 f601 f602 f603 f604 f605 f606 f607 f608 f609 f610 f611 f612 f613 f614 f615 f616 f617 f618 f619 f620 f621 f622 => ((w17_14 a i f606 f607 f608 f609 f610 f611 f612 f613 f614 f616 f617).trans (hF_M a i f598 f600 f601 f602 f603 f604 f605 f606 f607 f608 f609 f610 f611 f612 f613 f614 f615 f616 f617 f618 f619 f620 f621 f622))) (fun i g6 g10 g11 g12 g34 => ((w17_14 598 i (by decide) (by decide) (by decide) (by decide) (by decide) (by decide) (by decide) (by decide) (by decide) (by decide) (by decide)).trans (hG_M i g6 g10 g11 g12 g34))) (by omega) (by omega) (by omega) (by omega) (by omega) (by omega) (by omega) (by omega) (by omega) w17_0 (KT.fr kt (fun i => (w17_14 601 i (by decide) (by decide) (by decide) (by decide) (by decide) (by decide) (by decide) (by decide) (by decide) (by decide) (by decide)).trans ((fun i => rfl) i)) (fun i => (w17_14 604 i (by decide) (by decide) (by decide) (by decide) (by decide) (by decide) (by decide) (by decide) (by decide) (by decide) (by decide)).trans ((fun i => rfl) i)) (fun i => (w17_14 605 i (by decide) (by decide) (by decide) (by decide) (by decide) (by decide) (by decide) (by decide) (by decide) (by decide) (by decide)).trans ((fun i => rfl) i))) (by rw [e18, e19] <;> omega) (by omega) ⟨M, hy3, hy4, (show ¬ rfq (rf M0 x) (M0 600 x) (M 598 6) h (fst6 M (rf M0 x) (M0 600 x) (M 598 6) h) from by have h9 := hy9; have h41 := hy4.1; have h42 := hy4.2.1; have h61 := hy6.1; unfold rfq; rw [← h42, ← h61, ← h41]; omega), (by rw [← hy6.1]; exact hy9), Or.inr ⟨by rw [← hy8]; omega, w16_0, by omega, (by rw [← hy3.2.2.2.1, ← hy3.2.2.2.2.1, ← hy7.1, ← hy7.2.2, ← hy7.2.1, ← hy6.2]; exact ⟨⟨w17_1, w17_2, w17_3, w17_4, w17_5, w17_6, w17_7, w17_8, w17_9⟩, w17_10, w17_11, w17_12, w17_13, fun b0 j hb => w17_14 b0 j (by omega) (by omega) (by omega) (by omega) (by omega) (by omega) (by omega) (by omega) (by omega) (by omega) (by omega)⟩)⟩⟩ (Or.inl ⟨w17_3, Or.inl w17_5⟩) (by omega)
              · refine jr.bipush rfl (by decide) ?_
                exact jr.ireturn rfl rfl rfl (q _ _ hI_M hH_M hS_M  (by omega) hG1 (hy3.f (show ¬ rfq (rf M0 x) (M0 600 x) (M 598 6) h (fst6 M (rf M0 x) (M0 600 x) (M 598 6) h) from by have h9 := hy9; have h41 := hy4.1; have h42 := hy4.2.1; have h61 := hy6.1; unfold rfq; rw [← h42, ← h61, ← h41]; omega) (by rw [← hy8]; omega) (by rw [← w16_0]; omega) (by omega)) (fun a i f598 f600 f601 f602 f603 f604 f605 f606 f607 f608 f609 f610 f611 f612 f613 f614 f615 f616 f617 f618 f619 f620 f621 f622 => (hF_M a i f598 f600 f601 f602 f603 f604 f605 f606 f607 f608 f609 f610 f611 f612 f613 f614 f615 f616 f617 f618 f619 f620 f621 f622)) (fun i g6 g10 g11 g12 g34 => (hG_M i g6 g10 g11 g12 g34)))
          · have sx365 : (1 : Int) ≤ i := by omega
            refine jr.iload rfl rfl ?_
            refine jr.iload rfl rfl ?_
            refine jr.iadd rfl ?_
            refine jr.sipush rfl (by decide) ?_
            refine jr.icmp_le rfl rfl (by omega) (by omega) (fun h376 => ?_) (fun h376 => ?_)
            · refine jr.iload rfl rfl ?_
              refine jr.iconst rfl ?_
              refine jr.icmp_ne rfl rfl (by omega) (by omega) (fun h385 => ?_) (fun h385 => ?_)
              · have sx385 : (0 : Int) ≤ g := by omega
                obtain ⟨v20, e20⟩ : ∃ z, M 606 g = z := ⟨_, rfl⟩
                have b20 : 0 ≤ v20 ∧ v20 ≤ 1 := by rw [← e20]; exact (by have q := hI_M 606 g (by decide); rw [xri_row rfl rfl] at q; exact q)
                obtain ⟨v21, e21⟩ : ∃ z, M 607 g = z := ⟨_, rfl⟩
                have b21 : 0 ≤ v21 ∧ v21 ≤ 11 := by rw [← e21]; exact (by have q := hI_M 607 g (by decide); rw [xri_row rfl rfl] at q; exact q)
                refine jr.pick [0, 1, 7, 8, 9, 10, 11, 12, 13, 14] rfl rfl ?_
                exact r_gather_L418_x q M i g o c f t k h x hI_M hH_M hS_M  (fun a i f598 f600 f601 f602 f603 f604 f605 f606 f607 f608 f609 f610 f611 f612 f613 f614 f615 f616 f617 f618 f619 f620 f621 f622 => (hF_M a i f598 f600 f601 f602 f603 f604 f605 f606 f607 f608 f609 f610 f611 f612 f613 f614 f615 f616 f617 f618 f619 f620 f621 f622)) (fun i g6 g10 g11 g12 g34 => (hG_M i g6 g10 g11 g12 g34)) (by omega) (by omega) (by omega) (by omega) (by omega) (by omega) (by omega) (by omega) (by omega) hG1 (KT.fr kt (fun i => rfl) (fun i => rfl) (fun i => rfl)) (by rw [e20, e21] <;> omega) (by omega) ⟨M, hy3, hy4, (show ¬ rfq (rf M0 x) (M0 600 x) (M 598 6) h (fst6 M (rf M0 x) (M0 600 x) (M 598 6) h) from by have h9 := hy9; have h41 := hy4.1; have h42 := hy4.2.1; have h61 := hy6.1; unfold rfq; rw [← h42, ← h61, ← h41]; omega), (by rw [← hy6.1]; exact hy9), Or.inl ⟨by rw [← hy8]; omega, hy8, rfl⟩⟩ (hy5 g (by omega) (by omega) ((hy2.resolve_left (by omega)).2.1)) (by omega)
              · refine jr.aload_n rfl rfl ?_
                refine jr_v rfl rfl (Or.inl rfl) rfl rfl (by decide) rfl ⟨rfl, Nat.le_of_ble_eq_true rfl, Nat.le_of_ble_eq_true rfl⟩ rfl (jc.deep (r_freeGathering_x hI_M hH_M hS_M    (fun r22 z22 w22_0 => ?_)) (by decide))
                refine jr.istore rfl (by decide) rfl ?_
                refine jr.iload rfl rfl ?_
                refine jr.iconst rfl ?_
                refine jr.icmp_ne rfl rfl (by omega) (by omega) (fun h397 => ?_) (fun h397 => ?_)
                · have sx397 : (0 : Int) ≤ r22 := by omega
                  refine jr.aload_n rfl rfl ?_
                  refine jr.iload rfl rfl ?_
                  refine jr.iload_n rfl rfl ?_
                  refine jr.lload rfl rfl ?_
                  refine jr.lload rfl rfl ?_
                  refine jr.lload rfl rfl ?_
                  refine jr.iload rfl rfl ?_
                  refine jr_v rfl rfl (Or.inl rfl) rfl rfl (by decide) rfl ⟨rfl, Nat.le_of_ble_eq_true rfl, Nat.le_of_ble_eq_true rfl⟩ rfl (jc.deep (r_beginGathering_x hI_M hH_M hS_M  (by omega) (by omega) (by omega) (by omega) (by omega) (by omega) hG1 (fun M23 hI_M23 hH_M23 hS_M23  w23_0 w23_1 w23_2 w23_3 w23_4 w23_5 w23_6 w23_7 w23_8 w23_9 w23_10 w23_11 w23_12 w23_13 w23_14 => ?_)) (by decide))
                  obtain ⟨v24, e24⟩ : ∃ z, M23 606 r22 = z := ⟨_, rfl⟩
                  have b24 : 0 ≤ v24 ∧ v24 ≤ 1 := by rw [← e24]; exact (by have q := hI_M23 606 r22 (by decide); rw [xri_row rfl rfl] at q; exact q)
                  obtain ⟨v25, e25⟩ : ∃ z, M23 607 r22 = z := ⟨_, rfl⟩
                  have b25 : 0 ≤ v25 ∧ v25 ≤ 11 := by rw [← e25]; exact (by have q := hI_M23 607 r22 (by decide); rw [xri_row rfl rfl] at q; exact q)
                  refine jr.pick [1, 0, 7, 8, 9, 10, 11, 12, 13, 14] rfl rfl ?_
                  exact r_gather_L418_x q M23 i r22 o c f t k h x hI_M23 hH_M23 hS_M23  (fun a i f598 f600 f601 f602 f603 f604 f605 f606 f607 f608 f609 f610 f611 f612 f613 f614 f615 f616 f617 f618 f619 f620 f621 f622 => ((w23_14 a i f606 f607 f608 f609 f610 f611 f612 f613 f614 f616 f617).trans (hF_M a i f598 f600 f601 f602 f603 f604 f605 f606 f607 f608 f609 f610 f611 f612 f613 f614 f615 f616 f617 f618 f619 f620 f621 f622))) (fun i g6 g10 g11 g12 g34 => ((w23_14 598 i (by decide) (by decide) (by decide) (by decide) (by decide) (by decide) (by decide) (by decide) (by decide) (by decide) (by decide)).trans (hG_M i g6 g10 g11 g12 g34))) (by omega) (by omega) (by omega) (by omega) (by omega) (by omega) (by omega) (by omega) (by omega) w23_0 (KT.fr kt (fun i => (w23_14 601 i (by decide) (by decide) (by decide) (by decide) (by decide) (by decide) (by decide) (by decide) (by decide) (by decide) (by decide)).trans ((fun i => rfl) i)) (fun i => (w23_14 604 i (by decide) (by decide) (by decide) (by decide) (by decide) (by decide) (by decide) (by decide) (by decide) (by decide) (by decide)).trans ((fun i => rfl) i)) (fun i => (w23_14 605 i (by decide) (by decide) (by decide) (by decide) (by decide) (by decide) (by decide) (by decide) (by decide) (by decide) (by decide)).trans ((fun i => rfl) i))) (by rw [e24, e25] <;> omega) (by omega) ⟨M, hy3, hy4, (show ¬ rfq (rf M0 x) (M0 600 x) (M 598 6) h (fst6 M (rf M0 x) (M0 600 x) (M 598 6) h) from by have h9 := hy9; have h41 := hy4.1; have h42 := hy4.2.1; have h61 := hy6.1; unfold rfq; rw [← h42, ← h61, ← h41]; omega), (by rw [← hy6.1]; exact hy9), Or.inr ⟨by rw [← hy8]; omega, w22_0, by omega, (by rw [← hy3.2.2.2.1, ← hy3.2.2.2.2.1, ← hy7.1, ← hy7.2.2, ← hy7.2.1, ← hy6.2]; exact ⟨⟨w23_1, w23_2, w23_3, w23_4, w23_5, w23_6, w23_7, w23_8, w23_9⟩, w23_10, w23_11, w23_12, w23_13, fun b0 j hb => w23_14 b0 j (by omega) (by omega) (by omega) (by omega) (by omega) (by omega) (by omega) (by omega) (by omega) (by omega) (by omega)⟩)⟩⟩ (Or.inl ⟨w23_3, Or.inl w23_5⟩) (by omega)
                · refine jr.bipush rfl (by decide) ?_
                  exact jr.ireturn rfl rfl rfl (q _ _ hI_M hH_M hS_M  (by omega) hG1 (hy3.f (show ¬ rfq (rf M0 x) (M0 600 x) (M 598 6) h (fst6 M (rf M0 x) (M0 600 x) (M 598 6) h) from by have h9 := hy9; have h41 := hy4.1; have h42 := hy4.2.1; have h61 := hy6.1; unfold rfq; rw [← h42, ← h61, ← h41]; omega) (by rw [← hy8]; omega) (by rw [← w22_0]; omega) (by omega)) (fun a i f598 f600 f601 f602 f603 f604 f605 f606 f607 f608 f609 f610 f611 f612 f613 f614 f615 f616 f617 f618 f619 f620 f621 f622 => (hF_M a i f598 f600 f601 f602 f603 f604 f605 f606 f607 f608 f609 f610 f611 f612 f613 f614 f615 f616 f617 f618 f619 f620 f621 f622)) (fun i g6 g10 g11 g12 g34 => (hG_M i g6 g10 g11 g12 g34)))
            · refine jr.bipush rfl (by decide) ?_
              exact jr.ireturn rfl rfl rfl (q _ _ hI_M hH_M hS_M  (by omega) hG1 (hy3.r (by have h9 := hy9; have h41 := hy4.1; have h42 := hy4.2.1; have h61 := hy6.1; unfold rfq; rw [← h42, ← h61, ← h41]; omega) (by omega)) (fun a i f598 f600 f601 f602 f603 f604 f605 f606 f607 f608 f609 f610 f611 f612 f613 f614 f615 f616 f617 f618 f619 f620 f621 f622 => (hF_M a i f598 f600 f601 f602 f603 f604 f605 f606 f607 f608 f609 f610 f611 f612 f613 f614 f615 f616 f617 f618 f619 f620 f621 f622)) (fun i g6 g10 g11 g12 g34 => (hG_M i g6 g10 g11 g12 g34)))
