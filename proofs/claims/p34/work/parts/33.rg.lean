/-! ===== the reference: contracts, 33.rg ===== -/
theorem r_isRelated {A : Nat → Option (Nat × (Nat → Int32))} {Q : Option Value → jm → Prop} {T : jm} {M : jm} (hI_M : RI M) (hH_M : RH M) (hS_M : RF M) (ht_M : Kp T M) {x : Int} (h_x : 0 ≤ x ∧ x ≤ 23) (p0 : RE M) (q : ∀ (r : Int) (M' : jm), RI M' → RH M' → RF M' → Kp T M' → 0 ≤ r ∧ r ≤ 1 → RE M' → (∀ (a : Nat) (i : Int), a ≠ 598 → M' a i = M a i) → (∀ (i : Int), i ≠ 59 → i ≠ 60 → i ≠ 61 → i ≠ 62 → i ≠ 63 → i ≠ 64 → i ≠ 65 → M' 598 i = M 598 i) → Q (some (.int (Int32.ofInt r))) M') : jc A 7 305 [.ref (598), .int (Int32.ofInt (x))] M Q := by
  have p0' := p0
  obtain ⟨re1, re2, re3, re4, re5, tt, rt0, rt1, rt2⟩ := p0
  obtain ⟨ea, hea⟩ : ∃ z, M 598 65 = z := ⟨_, rfl⟩
  rw [hea] at re1 re2 re3 re4
  have rc := RH.car hH_M ea
  have b65 : M 598 6 ≤ 12 := (hI_M 598 6 (by decide)).2
  have rt := RH.two hH_M (ea + 1)
  have rd := RH.car hH_M (ea + 2)
  refine jc_of (m := xm_305) rfl (Nat.le_of_ble_eq_true rfl) rfl ?_
  refine jr.aload_n rfl rfl ?_
  refine jr.getf (i := 65) (x := ea) (v := .int (Int32.ofInt (ea))) rfl rfl (by decide) rfl (by decide) rfl rfl hea rfl ?_
  refine jr.istore_n rfl (by decide) rfl ?_
  refine jr.aload_n rfl rfl ?_
  refine jr.getf (i := 7) (v := .ref 603) rfl rfl (by decide) rfl (by decide) rfl rfl rfl rfl ?_
  refine jr.iload_n rfl rfl ?_
  obtain ⟨v1, e1⟩ : ∃ z, M 603 ea = z := ⟨_, rfl⟩
  have b1 : 0 ≤ v1 ∧ v1 ≤ 11 := by rw [← e1]; exact (by have q := hI_M 603 ea (by decide); rw [xri_row rfl rfl] at q; exact q)
  refine jr.iald (i := ea) (x := v1) rfl (by decide) rfl (by decide) (by omega) (by omega) e1 ?_
  refine jr.bipush rfl (by decide) ?_
  refine jr.icmp_ne rfl rfl (by omega) (by omega) (fun h13 => ?_) (fun h13 => ?_)
  · refine jr.iconst rfl ?_
    exact jr.ireturn rfl rfl rfl (q _ _ hI_M hH_M hS_M ht_M (by omega) p0' (fun a i f598 => rfl) (fun i g59 g60 g61 g62 g63 g64 g65 => rfl))
  · refine jr.aload_n rfl rfl ?_
    refine jr.iload_n rfl rfl ?_
    refine jr.aload_n rfl rfl ?_
    refine jr.getf (i := 8) (v := .ref 604) rfl rfl (by decide) rfl (by decide) rfl rfl rfl rfl ?_
    refine jr.iload_n rfl rfl ?_
    obtain ⟨v2, e2⟩ : ∃ z, M 604 ea = z := ⟨_, rfl⟩
    have b2 : 0 ≤ v2 ∧ v2 ≤ 400 := by rw [← e2]; exact (by have q := hI_M 604 ea (by decide); rw [xri_row rfl rfl] at q; exact q)
    refine jr.iald (i := ea) (x := v2) rfl (by decide) rfl (by decide) (by omega) (by omega) e2 ?_
    refine jr_v rfl rfl (Or.inl rfl) rfl rfl (by decide) rfl ⟨rfl, Nat.le_of_ble_eq_true rfl, Nat.le_of_ble_eq_true rfl⟩ rfl (jc.deep (r_one hI_M hH_M hS_M ht_M (by omega) (by omega)  (fun r3 z3 w3_0 => ?_)) (by decide))
    refine jr.iconst rfl ?_
    refine jr.icmp_eq rfl rfl (by omega) (by omega) (fun h28 => ?_) (fun h28 => ?_)
    · refine jr.iload_n rfl rfl ?_
      refine jr.iconst rfl ?_
      refine jr.iadd rfl ?_
      refine jr.aload_n rfl rfl ?_
      obtain ⟨v4, e4⟩ : ∃ z, M 598 6 = z := ⟨_, rfl⟩
      have b4 : 0 ≤ v4 ∧ v4 ≤ 12 := by rw [← e4]; exact hI_M 598 6 (by decide)
      refine jr.getf (i := 6) (x := v4) (v := .int (Int32.ofInt (v4))) rfl rfl (by decide) rfl (by decide) rfl rfl e4 rfl ?_
      refine jr.icmp_ge rfl rfl (by omega) (by omega) (fun h56 => ?_) (fun h56 => ?_)
      · refine jr.iconst rfl ?_
        refine jr.istore_n rfl (by decide) rfl ?_
        refine jr.iload_n rfl rfl ?_
        refine jr.if_eq rfl rfl (by omega) (fun _ => ?_) (fun h => absurd (by decide) h)
        refine jr.iload_n rfl rfl ?_
        exact jr.ireturn rfl rfl rfl (q _ _ hI_M hH_M hS_M ht_M (by omega) p0' (fun a i f598 => rfl) (fun i g59 g60 g61 g62 g63 g64 g65 => rfl))
      · refine jr.aload_n rfl rfl ?_
        refine jr.getf (i := 7) (v := .ref 603) rfl rfl (by decide) rfl (by decide) rfl rfl rfl rfl ?_
        refine jr.iload_n rfl rfl ?_
        refine jr.iconst rfl ?_
        refine jr.iadd rfl ?_
        obtain ⟨v5, e5⟩ : ∃ z, M 603 (ea + 1) = z := ⟨_, rfl⟩
        have b5 : 0 ≤ v5 ∧ v5 ≤ 11 := by rw [← e5]; exact (by have q := hI_M 603 (ea + 1) (by decide); rw [xri_row rfl rfl] at q; exact q)
        refine jr.iald (i := (ea + 1)) (x := v5) rfl (by decide) rfl (by decide) (by omega) (by omega) e5 ?_
        refine jr.iconst rfl ?_
        refine jr.icmp_eq rfl rfl (by omega) (by omega) (fun h68 => ?_) (fun h68 => ?_)
        · refine jr.aload_n rfl rfl ?_
          refine jr.getf (i := 7) (v := .ref 603) rfl rfl (by decide) rfl (by decide) rfl rfl rfl rfl ?_
          refine jr.iload_n rfl rfl ?_
          refine jr.iconst rfl ?_
          refine jr.iadd rfl ?_
          obtain ⟨v6, e6⟩ : ∃ z, M 603 (ea + 2) = z := ⟨_, rfl⟩
          have b6 : 0 ≤ v6 ∧ v6 ≤ 11 := by rw [← e6]; exact (by have q := hI_M 603 (ea + 2) (by decide); rw [xri_row rfl rfl] at q; exact q)
          refine jr.iald (i := (ea + 2)) (x := v6) rfl (by decide) rfl (by decide) (by omega) (by omega) e6 ?_
          refine jr_s rfl rfl (Or.inl rfl) ⟨Nat.le_of_ble_eq_true rfl, Nat.le_of_ble_eq_true rfl⟩ rfl rfl (jc.deep (c_isCarried (by omega) (fun c91 => ?_) (fun c91 => ?_)) (by decide))
          · refine jr.if_eq rfl rfl (by omega) (fun h => absurd h (by decide)) (fun _ => ?_)
            refine jr.iconst rfl ?_
            refine jr.goto rfl rfl ?_
            refine jr.istore_n rfl (by decide) rfl ?_
            refine jr.iload_n rfl rfl ?_
            refine jr.if_eq rfl rfl (by omega) (fun h => absurd h (by decide)) (fun _ => ?_)
            refine jr.aload_n rfl rfl ?_
            refine jr.iload_n rfl rfl ?_
            refine jr.iload_n rfl rfl ?_
            refine jr.iconst rfl ?_
            refine jr.iadd rfl ?_
            refine jr.iload_n rfl rfl ?_
            refine jr.iconst rfl ?_
            refine jr.iadd rfl ?_
            obtain ⟨v8, e8⟩ : ∃ z, M 604 (ea + 1) = z := ⟨_, rfl⟩
            have b8 : 0 ≤ v8 ∧ v8 ≤ 400 := by rw [← e8]; exact (by have q := hI_M 604 (ea + 1) (by decide); rw [xri_row rfl rfl] at q; exact q)
            obtain ⟨v9, e9⟩ : ∃ z, M 604 (ea + 2) = z := ⟨_, rfl⟩
            have b9 : 0 ≤ v9 ∧ v9 ≤ 400 := by rw [← e9]; exact (by have q := hI_M 604 (ea + 2) (by decide); rw [xri_row rfl rfl] at q; exact q)
            refine jr_v rfl rfl (Or.inl rfl) rfl rfl (by decide) rfl ⟨rfl, Nat.le_of_ble_eq_true rfl, Nat.le_of_ble_eq_true rfl⟩ rfl (jc.deep (r_takeEnds hI_M hH_M hS_M ht_M (by omega) (by omega) (by omega) (by rw [e5, e8]; omega) (by rw [e6]; omega) (by rw [e9]; omega) (fun M7 hI_M7 hH_M7 hS_M7 ht_M7 w7_0 w7_1 w7_2 w7_3 w7_4 => ?_)) (by decide))
            refine jr.iload_n rfl rfl ?_
            have e10 : M7 598 6 = v4 := ((w7_4 6 (by decide) (by decide) (by decide) (by decide) (by decide) (by decide) (by decide)).trans e4)
            have e11 : M7 603 (ea + 2) = v6 := ((w7_3 603 (ea + 2) (by decide)).trans e6)
            obtain ⟨v12, e12⟩ : ∃ z, M 603 tt = z := ⟨_, rfl⟩
            have b12 : 0 ≤ v12 ∧ v12 ≤ 11 := by rw [← e12]; exact (by have q := hI_M 603 tt (by decide); rw [xri_row rfl rfl] at q; exact q)
            have e13 : M7 603 tt = v12 := ((w7_3 603 tt (by decide)).trans e12)
            exact jr.ireturn rfl rfl rfl (q _ _ hI_M7 hH_M7 hS_M7 ht_M7 (by omega) (RE.mk' w7_0 (by omega) (by rw [e10]; omega) (by rw [e11]; omega) (fun q => by rw [e11]; have z := w7_1 q; omega) w7_2 (t := tt) (by omega) (by rw [e10]; omega) (by rw [e13]; omega)) (fun a i f598 => ((w7_3 a i f598).trans rfl)) (fun i g59 g60 g61 g62 g63 g64 g65 => ((w7_4 i g59 g60 g61 g62 g63 g64 g65).trans rfl)))
          · refine jr.if_eq rfl rfl (by omega) (fun _ => ?_) (fun h => absurd (by decide) h)
            refine jr.iconst rfl ?_
            refine jr.istore_n rfl (by decide) rfl ?_
            refine jr.iload_n rfl rfl ?_
            refine jr.if_eq rfl rfl (by omega) (fun _ => ?_) (fun h => absurd (by decide) h)
            refine jr.iload_n rfl rfl ?_
            exact jr.ireturn rfl rfl rfl (q _ _ hI_M hH_M hS_M ht_M (by omega) p0' (fun a i f598 => rfl) (fun i g59 g60 g61 g62 g63 g64 g65 => rfl))
        · refine jr.aload_n rfl rfl ?_
          refine jr.getf (i := 7) (v := .ref 603) rfl rfl (by decide) rfl (by decide) rfl rfl rfl rfl ?_
          refine jr.iload_n rfl rfl ?_
          refine jr.iconst rfl ?_
          refine jr.iadd rfl ?_
          refine jr.iald (i := (ea + 1)) (x := v5) rfl (by decide) rfl (by decide) (by omega) (by omega) e5 ?_
          refine jr.iconst rfl ?_
          refine jr.icmp_ne rfl rfl (by omega) (by omega) (fun h80 => ?_) (fun h80 => ?_)
          · refine jr.iconst rfl ?_
            refine jr.istore_n rfl (by decide) rfl ?_
            refine jr.iload_n rfl rfl ?_
            refine jr.if_eq rfl rfl (by omega) (fun _ => ?_) (fun h => absurd (by decide) h)
            refine jr.iload_n rfl rfl ?_
            exact jr.ireturn rfl rfl rfl (q _ _ hI_M hH_M hS_M ht_M (by omega) p0' (fun a i f598 => rfl) (fun i g59 g60 g61 g62 g63 g64 g65 => rfl))
          · refine jr.aload_n rfl rfl ?_
            refine jr.getf (i := 7) (v := .ref 603) rfl rfl (by decide) rfl (by decide) rfl rfl rfl rfl ?_
            refine jr.iload_n rfl rfl ?_
            refine jr.iconst rfl ?_
            refine jr.iadd rfl ?_
            obtain ⟨v14, e14⟩ : ∃ z, M 603 (ea + 2) = z := ⟨_, rfl⟩
            have b14 : 0 ≤ v14 ∧ v14 ≤ 11 := by rw [← e14]; exact (by have q := hI_M 603 (ea + 2) (by decide); rw [xri_row rfl rfl] at q; exact q)
            refine jr.iald (i := (ea + 2)) (x := v14) rfl (by decide) rfl (by decide) (by omega) (by omega) e14 ?_
            refine jr_s rfl rfl (Or.inl rfl) ⟨Nat.le_of_ble_eq_true rfl, Nat.le_of_ble_eq_true rfl⟩ rfl rfl (jc.deep (c_isCarried (by omega) (fun c91 => ?_) (fun c91 => ?_)) (by decide))
            · refine jr.if_eq rfl rfl (by omega) (fun h => absurd h (by decide)) (fun _ => ?_)
              refine jr.iconst rfl ?_
              refine jr.goto rfl rfl ?_
              refine jr.istore_n rfl (by decide) rfl ?_
              refine jr.iload_n rfl rfl ?_
              refine jr.if_eq rfl rfl (by omega) (fun h => absurd h (by decide)) (fun _ => ?_)
              refine jr.aload_n rfl rfl ?_
              refine jr.iload_n rfl rfl ?_
              refine jr.iload_n rfl rfl ?_
              refine jr.iconst rfl ?_
              refine jr.iadd rfl ?_
              refine jr.iload_n rfl rfl ?_
              refine jr.iconst rfl ?_
              refine jr.iadd rfl ?_
              obtain ⟨v16, e16⟩ : ∃ z, M 604 (ea + 1) = z := ⟨_, rfl⟩
              have b16 : 0 ≤ v16 ∧ v16 ≤ 400 := by rw [← e16]; exact (by have q := hI_M 604 (ea + 1) (by decide); rw [xri_row rfl rfl] at q; exact q)
              obtain ⟨v17, e17⟩ : ∃ z, M 604 (ea + 2) = z := ⟨_, rfl⟩
              have b17 : 0 ≤ v17 ∧ v17 ≤ 400 := by rw [← e17]; exact (by have q := hI_M 604 (ea + 2) (by decide); rw [xri_row rfl rfl] at q; exact q)
              refine jr_v rfl rfl (Or.inl rfl) rfl rfl (by decide) rfl ⟨rfl, Nat.le_of_ble_eq_true rfl, Nat.le_of_ble_eq_true rfl⟩ rfl (jc.deep (r_takeEnds hI_M hH_M hS_M ht_M (by omega) (by omega) (by omega) (by rw [e5, e16]; omega) (by rw [e14]; omega) (by rw [e17]; omega) (fun M15 hI_M15 hH_M15 hS_M15 ht_M15 w15_0 w15_1 w15_2 w15_3 w15_4 => ?_)) (by decide))
              refine jr.iload_n rfl rfl ?_
              have e18 : M15 598 6 = v4 := ((w15_4 6 (by decide) (by decide) (by decide) (by decide) (by decide) (by decide) (by decide)).trans e4)
              have e19 : M15 603 (ea + 2) = v14 := ((w15_3 603 (ea + 2) (by decide)).trans e14)
              obtain ⟨v20, e20⟩ : ∃ z, M 603 tt = z := ⟨_, rfl⟩
              have b20 : 0 ≤ v20 ∧ v20 ≤ 11 := by rw [← e20]; exact (by have q := hI_M 603 tt (by decide); rw [xri_row rfl rfl] at q; exact q)
              have e21 : M15 603 tt = v20 := ((w15_3 603 tt (by decide)).trans e20)
              exact jr.ireturn rfl rfl rfl (q _ _ hI_M15 hH_M15 hS_M15 ht_M15 (by omega) (RE.mk' w15_0 (by omega) (by rw [e18]; omega) (by rw [e19]; omega) (fun q => by rw [e19]; have z := w15_1 q; omega) w15_2 (t := tt) (by omega) (by rw [e18]; omega) (by rw [e21]; omega)) (fun a i f598 => ((w15_3 a i f598).trans rfl)) (fun i g59 g60 g61 g62 g63 g64 g65 => ((w15_4 i g59 g60 g61 g62 g63 g64 g65).trans rfl)))
            · refine jr.if_eq rfl rfl (by omega) (fun _ => ?_) (fun h => absurd (by decide) h)
              refine jr.iconst rfl ?_
              refine jr.istore_n rfl (by decide) rfl ?_
              refine jr.iload_n rfl rfl ?_
              refine jr.if_eq rfl rfl (by omega) (fun _ => ?_) (fun h => absurd (by decide) h)
              refine jr.iload_n rfl rfl ?_
              exact jr.ireturn rfl rfl rfl (q _ _ hI_M hH_M hS_M ht_M (by omega) p0' (fun a i f598 => rfl) (fun i g59 g60 g61 g62 g63 g64 g65 => rfl))
    · refine jr.aload_n rfl rfl ?_
      refine jr.iload_n rfl rfl ?_
      refine jr.aload_n rfl rfl ?_
      refine jr.getf (i := 8) (v := .ref 604) rfl rfl (by decide) rfl (by decide) rfl rfl rfl rfl ?_
      refine jr.iload_n rfl rfl ?_
      refine jr.iald (i := ea) (x := v2) rfl (by decide) rfl (by decide) (by omega) (by omega) e2 ?_
      refine jr_v rfl rfl (Or.inl rfl) rfl rfl (by decide) rfl ⟨rfl, Nat.le_of_ble_eq_true rfl, Nat.le_of_ble_eq_true rfl⟩ rfl (jc.deep (r_one hI_M hH_M hS_M ht_M (by omega) (by omega)  (fun r22 z22 w22_0 => ?_)) (by decide))
      refine jr.bipush rfl (by decide) ?_
      refine jr.icmp_eq rfl rfl (by omega) (by omega) (fun h44 => ?_) (fun h44 => ?_)
      · refine jr.iload_n rfl rfl ?_
        refine jr.iconst rfl ?_
        refine jr.iadd rfl ?_
        refine jr.aload_n rfl rfl ?_
        obtain ⟨v23, e23⟩ : ∃ z, M 598 6 = z := ⟨_, rfl⟩
        have b23 : 0 ≤ v23 ∧ v23 ≤ 12 := by rw [← e23]; exact hI_M 598 6 (by decide)
        refine jr.getf (i := 6) (x := v23) (v := .int (Int32.ofInt (v23))) rfl rfl (by decide) rfl (by decide) rfl rfl e23 rfl ?_
        refine jr.icmp_ge rfl rfl (by omega) (by omega) (fun h56 => ?_) (fun h56 => ?_)
        · refine jr.iconst rfl ?_
          refine jr.istore_n rfl (by decide) rfl ?_
          refine jr.iload_n rfl rfl ?_
          refine jr.if_eq rfl rfl (by omega) (fun _ => ?_) (fun h => absurd (by decide) h)
          refine jr.iload_n rfl rfl ?_
          exact jr.ireturn rfl rfl rfl (q _ _ hI_M hH_M hS_M ht_M (by omega) p0' (fun a i f598 => rfl) (fun i g59 g60 g61 g62 g63 g64 g65 => rfl))
        · refine jr.aload_n rfl rfl ?_
          refine jr.getf (i := 7) (v := .ref 603) rfl rfl (by decide) rfl (by decide) rfl rfl rfl rfl ?_
          refine jr.iload_n rfl rfl ?_
          refine jr.iconst rfl ?_
          refine jr.iadd rfl ?_
          obtain ⟨v24, e24⟩ : ∃ z, M 603 (ea + 1) = z := ⟨_, rfl⟩
          have b24 : 0 ≤ v24 ∧ v24 ≤ 11 := by rw [← e24]; exact (by have q := hI_M 603 (ea + 1) (by decide); rw [xri_row rfl rfl] at q; exact q)
          refine jr.iald (i := (ea + 1)) (x := v24) rfl (by decide) rfl (by decide) (by omega) (by omega) e24 ?_
          refine jr.iconst rfl ?_
          refine jr.icmp_eq rfl rfl (by omega) (by omega) (fun h68 => ?_) (fun h68 => ?_)
          · refine jr.aload_n rfl rfl ?_
            refine jr.getf (i := 7) (v := .ref 603) rfl rfl (by decide) rfl (by decide) rfl rfl rfl rfl ?_
            refine jr.iload_n rfl rfl ?_
            refine jr.iconst rfl ?_
            refine jr.iadd rfl ?_
            obtain ⟨v25, e25⟩ : ∃ z, M 603 (ea + 2) = z := ⟨_, rfl⟩
            have b25 : 0 ≤ v25 ∧ v25 ≤ 11 := by rw [← e25]; exact (by have q := hI_M 603 (ea + 2) (by decide); rw [xri_row rfl rfl] at q; exact q)
            refine jr.iald (i := (ea + 2)) (x := v25) rfl (by decide) rfl (by decide) (by omega) (by omega) e25 ?_
            refine jr_s rfl rfl (Or.inl rfl) ⟨Nat.le_of_ble_eq_true rfl, Nat.le_of_ble_eq_true rfl⟩ rfl rfl (jc.deep (c_isCarried (by omega) (fun c91 => ?_) (fun c91 => ?_)) (by decide))
            · refine jr.if_eq rfl rfl (by omega) (fun h => absurd h (by decide)) (fun _ => ?_)
              refine jr.iconst rfl ?_
              refine jr.goto rfl rfl ?_
              refine jr.istore_n rfl (by decide) rfl ?_
              refine jr.iload_n rfl rfl ?_
              refine jr.if_eq rfl rfl (by omega) (fun h => absurd h (by decide)) (fun _ => ?_)
              refine jr.aload_n rfl rfl ?_
              refine jr.iload_n rfl rfl ?_
              refine jr.iload_n rfl rfl ?_
              refine jr.iconst rfl ?_
              refine jr.iadd rfl ?_
              refine jr.iload_n rfl rfl ?_
              refine jr.iconst rfl ?_
              refine jr.iadd rfl ?_
              obtain ⟨v27, e27⟩ : ∃ z, M 604 (ea + 1) = z := ⟨_, rfl⟩
              have b27 : 0 ≤ v27 ∧ v27 ≤ 400 := by rw [← e27]; exact (by have q := hI_M 604 (ea + 1) (by decide); rw [xri_row rfl rfl] at q; exact q)
              obtain ⟨v28, e28⟩ : ∃ z, M 604 (ea + 2) = z := ⟨_, rfl⟩
              have b28 : 0 ≤ v28 ∧ v28 ≤ 400 := by rw [← e28]; exact (by have q := hI_M 604 (ea + 2) (by decide); rw [xri_row rfl rfl] at q; exact q)
              refine jr_v rfl rfl (Or.inl rfl) rfl rfl (by decide) rfl ⟨rfl, Nat.le_of_ble_eq_true rfl, Nat.le_of_ble_eq_true rfl⟩ rfl (jc.deep (r_takeEnds hI_M hH_M hS_M ht_M (by omega) (by omega) (by omega) (by rw [e24, e27]; omega) (by rw [e25]; omega) (by rw [e28]; omega) (fun M26 hI_M26 hH_M26 hS_M26 ht_M26 w26_0 w26_1 w26_2 w26_3 w26_4 => ?_)) (by decide))
              refine jr.iload_n rfl rfl ?_
              have e29 : M26 598 6 = v23 := ((w26_4 6 (by decide) (by decide) (by decide) (by decide) (by decide) (by decide) (by decide)).trans e23)
              have e30 : M26 603 (ea + 2) = v25 := ((w26_3 603 (ea + 2) (by decide)).trans e25)
              obtain ⟨v31, e31⟩ : ∃ z, M 603 tt = z := ⟨_, rfl⟩
              have b31 : 0 ≤ v31 ∧ v31 ≤ 11 := by rw [← e31]; exact (by have q := hI_M 603 tt (by decide); rw [xri_row rfl rfl] at q; exact q)
              have e32 : M26 603 tt = v31 := ((w26_3 603 tt (by decide)).trans e31)
              exact jr.ireturn rfl rfl rfl (q _ _ hI_M26 hH_M26 hS_M26 ht_M26 (by omega) (RE.mk' w26_0 (by omega) (by rw [e29]; omega) (by rw [e30]; omega) (fun q => by rw [e30]; have z := w26_1 q; omega) w26_2 (t := tt) (by omega) (by rw [e29]; omega) (by rw [e32]; omega)) (fun a i f598 => ((w26_3 a i f598).trans rfl)) (fun i g59 g60 g61 g62 g63 g64 g65 => ((w26_4 i g59 g60 g61 g62 g63 g64 g65).trans rfl)))
            · refine jr.if_eq rfl rfl (by omega) (fun _ => ?_) (fun h => absurd (by decide) h)
              refine jr.iconst rfl ?_
              refine jr.istore_n rfl (by decide) rfl ?_
              refine jr.iload_n rfl rfl ?_
              refine jr.if_eq rfl rfl (by omega) (fun _ => ?_) (fun h => absurd (by decide) h)
              refine jr.iload_n rfl rfl ?_
              exact jr.ireturn rfl rfl rfl (q _ _ hI_M hH_M hS_M ht_M (by omega) p0' (fun a i f598 => rfl) (fun i g59 g60 g61 g62 g63 g64 g65 => rfl))
          · refine jr.aload_n rfl rfl ?_
            refine jr.getf (i := 7) (v := .ref 603) rfl rfl (by decide) rfl (by decide) rfl rfl rfl rfl ?_
            refine jr.iload_n rfl rfl ?_
            refine jr.iconst rfl ?_
            refine jr.iadd rfl ?_
            refine jr.iald (i := (ea + 1)) (x := v24) rfl (by decide) rfl (by decide) (by omega) (by omega) e24 ?_
            refine jr.iconst rfl ?_
            refine jr.icmp_ne rfl rfl (by omega) (by omega) (fun h80 => ?_) (fun h80 => ?_)
            · refine jr.iconst rfl ?_
              refine jr.istore_n rfl (by decide) rfl ?_
              refine jr.iload_n rfl rfl ?_
              refine jr.if_eq rfl rfl (by omega) (fun _ => ?_) (fun h => absurd (by decide) h)
              refine jr.iload_n rfl rfl ?_
              exact jr.ireturn rfl rfl rfl (q _ _ hI_M hH_M hS_M ht_M (by omega) p0' (fun a i f598 => rfl) (fun i g59 g60 g61 g62 g63 g64 g65 => rfl))
            · refine jr.aload_n rfl rfl ?_
              refine jr.getf (i := 7) (v := .ref 603) rfl rfl (by decide) rfl (by decide) rfl rfl rfl rfl ?_
              refine jr.iload_n rfl rfl ?_
              refine jr.iconst rfl ?_
              refine jr.iadd rfl ?_
              obtain ⟨v33, e33⟩ : ∃ z, M 603 (ea + 2) = z := ⟨_, rfl⟩
              have b33 : 0 ≤ v33 ∧ v33 ≤ 11 := by rw [← e33]; exact (by have q := hI_M 603 (ea + 2) (by decide); rw [xri_row rfl rfl] at q; exact q)
              refine jr.iald (i := (ea + 2)) (x := v33) rfl (by decide) rfl (by decide) (by omega) (by omega) e33 ?_
              refine jr_s rfl rfl (Or.inl rfl) ⟨Nat.le_of_ble_eq_true rfl, Nat.le_of_ble_eq_true rfl⟩ rfl rfl (jc.deep (c_isCarried (by omega) (fun c91 => ?_) (fun c91 => ?_)) (by decide))
              · refine jr.if_eq rfl rfl (by omega) (fun h => absurd h (by decide)) (fun _ => ?_)
                refine jr.iconst rfl ?_
                refine jr.goto rfl rfl ?_
                refine jr.istore_n rfl (by decide) rfl ?_
                refine jr.iload_n rfl rfl ?_
                refine jr.if_eq rfl rfl (by omega) (fun h => absurd h (by decide)) (fun _ => ?_)
                refine jr.aload_n rfl rfl ?_
                refine jr.iload_n rfl rfl ?_
                refine jr.iload_n rfl rfl ?_
                refine jr.iconst rfl ?_
                refine jr.iadd rfl ?_
                refine jr.iload_n rfl rfl ?_
                refine jr.iconst rfl ?_
                refine jr.iadd rfl ?_
                obtain ⟨v35, e35⟩ : ∃ z, M 604 (ea + 1) = z := ⟨_, rfl⟩
                have b35 : 0 ≤ v35 ∧ v35 ≤ 400 := by rw [← e35]; exact (by have q := hI_M 604 (ea + 1) (by decide); rw [xri_row rfl rfl] at q; exact q)
                obtain ⟨v36, e36⟩ : ∃ z, M 604 (ea + 2) = z := ⟨_, rfl⟩
                have b36 : 0 ≤ v36 ∧ v36 ≤ 400 := by rw [← e36]; exact (by have q := hI_M 604 (ea + 2) (by decide); rw [xri_row rfl rfl] at q; exact q)
                refine jr_v rfl rfl (Or.inl rfl) rfl rfl (by decide) rfl ⟨rfl, Nat.le_of_ble_eq_true rfl, Nat.le_of_ble_eq_true rfl⟩ rfl (jc.deep (r_takeEnds hI_M hH_M hS_M ht_M (by omega) (by omega) (by omega) (by rw [e24, e35]; omega) (by rw [e33]; omega) (by rw [e36]; omega) (fun M34 hI_M34 hH_M34 hS_M34 ht_M34 w34_0 w34_1 w34_2 w34_3 w34_4 => ?_)) (by decide))
                refine jr.iload_n rfl rfl ?_
                have e37 : M34 598 6 = v23 := ((w34_4 6 (by decide) (by decide) (by decide) (by decide) (by decide) (by decide) (by decide)).trans e23)
                have e38 : M34 603 (ea + 2) = v33 := ((w34_3 603 (ea + 2) (by decide)).trans e33)
                obtain ⟨v39, e39⟩ : ∃ z, M 603 tt = z := ⟨_, rfl⟩
                have b39 : 0 ≤ v39 ∧ v39 ≤ 11 := by rw [← e39]; exact (by have q := hI_M 603 tt (by decide); rw [xri_row rfl rfl] at q; exact q)
                have e40 : M34 603 tt = v39 := ((w34_3 603 tt (by decide)).trans e39)
                exact jr.ireturn rfl rfl rfl (q _ _ hI_M34 hH_M34 hS_M34 ht_M34 (by omega) (RE.mk' w34_0 (by omega) (by rw [e37]; omega) (by rw [e38]; omega) (fun q => by rw [e38]; have z := w34_1 q; omega) w34_2 (t := tt) (by omega) (by rw [e37]; omega) (by rw [e40]; omega)) (fun a i f598 => ((w34_3 a i f598).trans rfl)) (fun i g59 g60 g61 g62 g63 g64 g65 => ((w34_4 i g59 g60 g61 g62 g63 g64 g65).trans rfl)))
              · refine jr.if_eq rfl rfl (by omega) (fun _ => ?_) (fun h => absurd (by decide) h)
                refine jr.iconst rfl ?_
                refine jr.istore_n rfl (by decide) rfl ?_
                refine jr.iload_n rfl rfl ?_
                refine jr.if_eq rfl rfl (by omega) (fun _ => ?_) (fun h => absurd (by decide) h)
                refine jr.iload_n rfl rfl ?_
                exact jr.ireturn rfl rfl rfl (q _ _ hI_M hH_M hS_M ht_M (by omega) p0' (fun a i f598 => rfl) (fun i g59 g60 g61 g62 g63 g64 g65 => rfl))
      · refine jr.iconst rfl ?_
        exact jr.ireturn rfl rfl rfl (q _ _ hI_M hH_M hS_M ht_M (by omega) p0' (fun a i f598 => rfl) (fun i g59 g60 g61 g62 g63 g64 g65 => rfl))
theorem r_longOf {A : Nat → Option (Nat × (Nat → Int32))} {Q : Option Value → jm → Prop} {T : jm} {M : jm} (hI_M : RI M) (hH_M : RH M) (hS_M : RF M) (ht_M : Kp T M) {x : Int} (h_x : 0 ≤ x ∧ x ≤ 23) (p0 : (0 ≤ M 598 65 ∧ M 598 65 ≤ 11)) (p1 : M 604 (M 598 65) ≤ 380) (q : ∀ (r : Int), (-2000) ≤ r ∧ r ≤ 2000 → Q (some (.int (Int32.ofInt r))) M) : jc A 2 311 [.ref (598), .int (Int32.ofInt (x))] M Q := by
  obtain ⟨ea, hea⟩ : ∃ z, M 598 65 = z := ⟨_, rfl⟩
  rw [hea] at p0 p1
  refine jc_of (m := xm_311) rfl (Nat.le_of_ble_eq_true rfl) rfl ?_
  refine jr.aload_n rfl rfl ?_
  refine jr.getf (i := 65) (x := ea) (v := .int (Int32.ofInt (ea))) rfl rfl (by decide) rfl (by decide) rfl rfl hea rfl ?_
  refine jr.istore_n rfl (by decide) rfl ?_
  refine jr.aload_n rfl rfl ?_
  refine jr.iload_n rfl rfl ?_
  refine jr.aload_n rfl rfl ?_
  refine jr.getf (i := 8) (v := .ref 604) rfl rfl (by decide) rfl (by decide) rfl rfl rfl rfl ?_
  refine jr.iload_n rfl rfl ?_
  obtain ⟨v1, e1⟩ : ∃ z, M 604 ea = z := ⟨_, rfl⟩
  have b1 : 0 ≤ v1 ∧ v1 ≤ 400 := by rw [← e1]; exact (by have q := hI_M 604 ea (by decide); rw [xri_row rfl rfl] at q; exact q)
  refine jr.iald (i := ea) (x := v1) rfl (by decide) rfl (by decide) (by omega) (by omega) e1 ?_
  refine jr.bipush rfl (by decide) ?_
  refine jr.iadd rfl ?_
  refine jr_v rfl rfl (Or.inl rfl) rfl rfl (by decide) rfl ⟨rfl, Nat.le_of_ble_eq_true rfl, Nat.le_of_ble_eq_true rfl⟩ rfl (jc.deep (r_one hI_M hH_M hS_M ht_M (by omega) (by omega)  (fun r2 z2 w2_0 => ?_)) (by decide))
  refine jr.istore_n rfl (by decide) rfl ?_
  refine jr.aload_n rfl rfl ?_
  refine jr.getf (i := 3) (v := .ref 600) rfl rfl (by decide) rfl (by decide) rfl rfl rfl rfl ?_
  refine jr.iload_n rfl rfl ?_
  obtain ⟨v3, e3⟩ : ∃ z, M 600 x = z := ⟨_, rfl⟩
  have b3 : (-1) ≤ v3 ∧ v3 ≤ 400 := by rw [← e3]; exact (by have q := hI_M 600 x (by decide); rw [xri_row rfl rfl] at q; exact q)
  refine jr.iald (i := x) (x := v3) rfl (by decide) rfl (by decide) (by omega) (by omega) e3 ?_
  refine jr.aload_n rfl rfl ?_
  refine jr.getf (i := 8) (v := .ref 604) rfl rfl (by decide) rfl (by decide) rfl rfl rfl rfl ?_
  refine jr.iload_n rfl rfl ?_
  refine jr.iald (i := ea) (x := v1) rfl (by decide) rfl (by decide) (by omega) (by omega) e1 ?_
  refine jr.isub rfl ?_
  refine jr.aload_n rfl rfl ?_
  refine jr.getf (i := 9) (v := .ref 605) rfl rfl (by decide) rfl (by decide) rfl rfl rfl rfl ?_
  refine jr.iload_n rfl rfl ?_
  obtain ⟨v4, e4⟩ : ∃ z, M 605 ea = z := ⟨_, rfl⟩
  have b4 : 0 ≤ v4 ∧ v4 ≤ 400 := by rw [← e4]; exact (by have q := hI_M 605 ea (by decide); rw [xri_row rfl rfl] at q; exact q)
  refine jr.iald (i := ea) (x := v4) rfl (by decide) rfl (by decide) (by omega) (by omega) e4 ?_
  refine jr.isub rfl ?_
  refine jr.iload_n rfl rfl ?_
  refine jr.iconst rfl ?_
  refine jr.ishr rfl ?_
  have b5 : j_shr r2 1 = r2 / 2 := j_shr_ex 1 (by decide) (by omega) (by omega)
  generalize j_shr r2 1 = v5 at b5 ⊢
  refine jr.iconst rfl ?_
  refine jr.iand rfl ?_
  have b6 : 0 ≤ j_and v5 1 ∧ j_and v5 1 ≤ 1 := j_and_le (by decide)
  generalize j_and v5 1 = v6 at b6 ⊢
  refine jr.iadd rfl ?_
  refine jr.iload_n rfl rfl ?_
  refine jr.iconst rfl ?_
  refine jr.iand rfl ?_
  have b7 : 0 ≤ j_and r2 1 ∧ j_and r2 1 ≤ 1 := j_and_le (by decide)
  generalize j_and r2 1 = v7 at b7 ⊢
  refine jr.iadd rfl ?_
  exact jr.ireturn rfl rfl rfl (q _ (by omega) )
theorem r_isOut {A : Nat → Option (Nat × (Nat → Int32))} {Q : Option Value → jm → Prop} {T : jm} {M : jm} (hI_M : RI M) (hH_M : RH M) (hS_M : RF M) (ht_M : Kp T M) {x : Int} (h_x : 0 ≤ x ∧ x ≤ 23) {f : Int} (h_f : 0 ≤ f ∧ f ≤ 23) {c : Int} (h_c : 0 ≤ c ∧ c ≤ 5) (p0 : (0 ≤ M 598 65 ∧ M 598 65 ≤ 11)) (p1 : M 604 (M 598 65) ≤ 380) (p2 : 0 ≤ M 598 66) (q : ∀ (r : Int), 0 ≤ r ∧ r ≤ 1 → Q (some (.int (Int32.ofInt r))) M) : jc A 4 312 [.ref (598), .int (Int32.ofInt (x)), .int (Int32.ofInt (f)), .int (Int32.ofInt (c))] M Q := by
  obtain ⟨ea, hea⟩ : ∃ z, M 598 65 = z := ⟨_, rfl⟩
  rw [hea] at p0 p1
  refine jc_of (m := xm_312) rfl (Nat.le_of_ble_eq_true rfl) rfl ?_
  refine jr.iconst rfl ?_
  refine jr.iload_n rfl rfl ?_
  refine jr.imul rfl ?_
  refine jr.aload_n rfl rfl ?_
  obtain ⟨v1, e1⟩ : ∃ z, M 598 66 = z := ⟨_, rfl⟩
  have b1 : (-1) ≤ v1 ∧ v1 ≤ 1 := by rw [← e1]; exact hI_M 598 66 (by decide)
  refine jr.getf (i := 66) (x := v1) (v := .int (Int32.ofInt (v1))) rfl rfl (by decide) rfl (by decide) rfl rfl e1 rfl ?_
  refine jr.iadd rfl ?_
  refine jr.istore rfl (by decide) rfl ?_
  refine jr.iconst rfl ?_
  refine jr.iload_n rfl rfl ?_
  refine jr.imul rfl ?_
  refine jr.iconst rfl ?_
  refine jr.iadd rfl ?_
  refine jr.aload_n rfl rfl ?_
  refine jr.getf (i := 66) (x := v1) (v := .int (Int32.ofInt (v1))) rfl rfl (by decide) rfl (by decide) rfl rfl e1 rfl ?_
  refine jr.isub rfl ?_
  refine jr.istore rfl (by decide) rfl ?_
  refine jr.iload_n rfl rfl ?_
  refine jr.iconst rfl ?_
  refine jr.icmp_eq rfl rfl (by omega) (by omega) (fun h24 => ?_) (fun h24 => ?_)
  · refine jr.aload_n rfl rfl ?_
    refine jr.getf (i := 44) (v := .ref 632) rfl rfl (by decide) rfl (by decide) rfl rfl rfl rfl ?_
    refine jr.iload rfl rfl ?_
    obtain ⟨v2, e2⟩ : ∃ z, M 632 ((2 * f) + v1) = z := ⟨_, rfl⟩
    have b2 : 0 ≤ v2 ∧ v2 ≤ 1 := by rw [← e2]; exact (by have q := hI_M 632 ((2 * f) + v1) (by decide); rw [xri_row rfl rfl] at q; exact q)
    refine jr.zald (i := ((2 * f) + v1)) (x := v2) rfl (by decide) rfl (by decide) (by omega) (by omega) e2 ?_
    refine jr.if_ne rfl rfl (by omega) (fun h39 => ?_) (fun h39 => ?_)
    · refine jr.aload_n rfl rfl ?_
      refine jr.iload_n rfl rfl ?_
      refine jr.aload_n rfl rfl ?_
      refine jr.getf (i := 8) (v := .ref 604) rfl rfl (by decide) rfl (by decide) rfl rfl rfl rfl ?_
      refine jr.aload_n rfl rfl ?_
      refine jr.getf (i := 65) (x := ea) (v := .int (Int32.ofInt (ea))) rfl rfl (by decide) rfl (by decide) rfl rfl hea rfl ?_
      obtain ⟨v3, e3⟩ : ∃ z, M 604 ea = z := ⟨_, rfl⟩
      have b3 : 0 ≤ v3 ∧ v3 ≤ 400 := by rw [← e3]; exact (by have q := hI_M 604 ea (by decide); rw [xri_row rfl rfl] at q; exact q)
      refine jr.iald (i := ea) (x := v3) rfl (by decide) rfl (by decide) (by omega) (by omega) e3 ?_
      refine jr.iconst rfl ?_
      refine jr.iadd rfl ?_
      refine jr_v rfl rfl (Or.inl rfl) rfl rfl (by decide) rfl ⟨rfl, Nat.le_of_ble_eq_true rfl, Nat.le_of_ble_eq_true rfl⟩ rfl (jc.deep (r_four hI_M hH_M hS_M ht_M (by omega) (by omega)  (fun r4 z4  => ?_)) (by decide))
      refine jr.l2i rfl ?_
      refine jr.iw (j_w r4) (j_w_eq _) ?_
      have b5 : -2147483648 ≤ j_w r4 ∧ j_w r4 ≤ 2147483647 := jb_any _
      generalize j_w r4 = v5 at b5 ⊢
      refine jr.istore rfl (by decide) rfl ?_
      refine jr.iload rfl rfl ?_
      refine jr.aload_n rfl rfl ?_
      refine jr.getf (i := 45) (v := .ref 633) rfl rfl (by decide) rfl (by decide) rfl rfl rfl rfl ?_
      refine jr.iload rfl rfl ?_
      obtain ⟨v6, e6⟩ : ∃ z, M 633 ((2 * f) + v1) = z := ⟨_, rfl⟩
      have b6 : (-2147483648) ≤ v6 ∧ v6 ≤ 2147483647 := by rw [← e6]; exact (by have q := hI_M 633 ((2 * f) + v1) (by decide); rw [xri_row rfl rfl] at q; exact q)
      refine jr.iald (i := ((2 * f) + v1)) (x := v6) rfl (by decide) rfl (by decide) (by omega) (by omega) e6 ?_
      refine jr.isub rfl ?_
      refine jr.iw (j_w (v5 - v6)) (j_w_eq _) ?_
      have b7 : -2147483648 ≤ j_w (v5 - v6) ∧ j_w (v5 - v6) ≤ 2147483647 := jb_any _
      generalize j_w (v5 - v6) = v7 at b7 ⊢
      refine jr.istore rfl (by decide) rfl ?_
      refine jr.iload rfl rfl ?_
      refine jr.aload_n rfl rfl ?_
      refine jr.iload_n rfl rfl ?_
      refine jr_v rfl rfl (Or.inl rfl) rfl rfl (by decide) rfl ⟨rfl, Nat.le_of_ble_eq_true rfl, Nat.le_of_ble_eq_true rfl⟩ rfl (jc.deep (r_longOf hI_M hH_M hS_M ht_M (by omega) (by rw [hea]; omega) (by rw [hea, e3]; omega) (fun r8 z8  => ?_)) (by decide))
      refine jr.iadd rfl ?_
      refine jr.iw (j_w (v5 + r8)) (j_w_eq _) ?_
      have b9 : -2147483648 ≤ j_w (v5 + r8) ∧ j_w (v5 + r8) ≤ 2147483647 := jb_any _
      generalize j_w (v5 + r8) = v9 at b9 ⊢
      refine jr.aload_n rfl rfl ?_
      refine jr.getf (i := 45) (v := .ref 633) rfl rfl (by decide) rfl (by decide) rfl rfl rfl rfl ?_
      refine jr.iload rfl rfl ?_
      refine jr.iald (i := ((2 * f) + v1)) (x := v6) rfl (by decide) rfl (by decide) (by omega) (by omega) e6 ?_
      refine jr.isub rfl ?_
      refine jr.iw (j_w (v9 - v6)) (j_w_eq _) ?_
      have b10 : -2147483648 ≤ j_w (v9 - v6) ∧ j_w (v9 - v6) ≤ 2147483647 := jb_any _
      generalize j_w (v9 - v6) = v10 at b10 ⊢
      refine jr.istore rfl (by decide) rfl ?_
      refine jr.iload rfl rfl ?_
      refine jr.ldcw (x := (-66000)) rfl rfl (by decide) ?_
      refine jr.icmp_lt rfl rfl (by omega) (by omega) (fun h98 => ?_) (fun h98 => ?_)
      · refine jr.iconst rfl ?_
        refine jr.goto rfl rfl ?_
        exact jr.ireturn rfl rfl rfl (q _ (by omega) )
      · refine jr.aload_n rfl rfl ?_
        refine jr.getf (i := 46) (v := .ref 634) rfl rfl (by decide) rfl (by decide) rfl rfl rfl rfl ?_
        refine jr.iload rfl rfl ?_
        obtain ⟨v11, e11⟩ : ∃ z, M 634 (((2 * f) + 1) - v1) = z := ⟨_, rfl⟩
        have b11 : 0 ≤ v11 ∧ v11 ≤ 1 := by rw [← e11]; exact (by have q := hI_M 634 (((2 * f) + 1) - v1) (by decide); rw [xri_row rfl rfl] at q; exact q)
        refine jr.zald (i := (((2 * f) + 1) - v1)) (x := v11) rfl (by decide) rfl (by decide) (by omega) (by omega) e11 ?_
        refine jr.if_eq rfl rfl (by omega) (fun h108 => ?_) (fun h108 => ?_)
        · refine jr.iconst rfl ?_
          exact jr.ireturn rfl rfl rfl (q _ (by omega) )
        · refine jr.iload rfl rfl ?_
          refine jr.aload_n rfl rfl ?_
          refine jr.getf (i := 47) (v := .ref 635) rfl rfl (by decide) rfl (by decide) rfl rfl rfl rfl ?_
          refine jr.iload rfl rfl ?_
          obtain ⟨v12, e12⟩ : ∃ z, M 635 (((2 * f) + 1) - v1) = z := ⟨_, rfl⟩
          have b12 : 0 ≤ v12 ∧ v12 ≤ 65535 := by rw [← e12]; exact (by have q := hI_M 635 (((2 * f) + 1) - v1) (by decide); rw [xri_row rfl rfl] at q; exact q)
          refine jr.iald (i := (((2 * f) + 1) - v1)) (x := v12) rfl (by decide) rfl (by decide) (by omega) (by omega) e12 ?_
          refine jr.icmp_le rfl rfl (by omega) (by omega) (fun h120 => ?_) (fun h120 => ?_)
          · refine jr.iconst rfl ?_
            exact jr.ireturn rfl rfl rfl (q _ (by omega) )
          · refine jr.iconst rfl ?_
            refine jr.goto rfl rfl ?_
            exact jr.ireturn rfl rfl rfl (q _ (by omega) )
    · refine jr.iconst rfl ?_
      exact jr.ireturn rfl rfl rfl (q _ (by omega) )
  · refine jr.iload_n rfl rfl ?_
    refine jr.iconst rfl ?_
    refine jr.icmp_ne rfl rfl (by omega) (by omega) (fun h29 => ?_) (fun h29 => ?_)
    · refine jr.iconst rfl ?_
      exact jr.ireturn rfl rfl rfl (q _ (by omega) )
    · refine jr.aload_n rfl rfl ?_
      refine jr.getf (i := 44) (v := .ref 632) rfl rfl (by decide) rfl (by decide) rfl rfl rfl rfl ?_
      refine jr.iload rfl rfl ?_
      obtain ⟨v13, e13⟩ : ∃ z, M 632 ((2 * f) + v1) = z := ⟨_, rfl⟩
      have b13 : 0 ≤ v13 ∧ v13 ≤ 1 := by rw [← e13]; exact (by have q := hI_M 632 ((2 * f) + v1) (by decide); rw [xri_row rfl rfl] at q; exact q)
      refine jr.zald (i := ((2 * f) + v1)) (x := v13) rfl (by decide) rfl (by decide) (by omega) (by omega) e13 ?_
      refine jr.if_ne rfl rfl (by omega) (fun h39 => ?_) (fun h39 => ?_)
      · refine jr.aload_n rfl rfl ?_
        refine jr.iload_n rfl rfl ?_
        refine jr.aload_n rfl rfl ?_
        refine jr.getf (i := 8) (v := .ref 604) rfl rfl (by decide) rfl (by decide) rfl rfl rfl rfl ?_
        refine jr.aload_n rfl rfl ?_
        refine jr.getf (i := 65) (x := ea) (v := .int (Int32.ofInt (ea))) rfl rfl (by decide) rfl (by decide) rfl rfl hea rfl ?_
        obtain ⟨v14, e14⟩ : ∃ z, M 604 ea = z := ⟨_, rfl⟩
        have b14 : 0 ≤ v14 ∧ v14 ≤ 400 := by rw [← e14]; exact (by have q := hI_M 604 ea (by decide); rw [xri_row rfl rfl] at q; exact q)
        refine jr.iald (i := ea) (x := v14) rfl (by decide) rfl (by decide) (by omega) (by omega) e14 ?_
        refine jr.iconst rfl ?_
        refine jr.iadd rfl ?_
        refine jr_v rfl rfl (Or.inl rfl) rfl rfl (by decide) rfl ⟨rfl, Nat.le_of_ble_eq_true rfl, Nat.le_of_ble_eq_true rfl⟩ rfl (jc.deep (r_four hI_M hH_M hS_M ht_M (by omega) (by omega)  (fun r15 z15  => ?_)) (by decide))
        refine jr.l2i rfl ?_
        refine jr.iw (j_w r15) (j_w_eq _) ?_
        have b16 : -2147483648 ≤ j_w r15 ∧ j_w r15 ≤ 2147483647 := jb_any _
        generalize j_w r15 = v16 at b16 ⊢
        refine jr.istore rfl (by decide) rfl ?_
        refine jr.iload rfl rfl ?_
        refine jr.aload_n rfl rfl ?_
        refine jr.getf (i := 45) (v := .ref 633) rfl rfl (by decide) rfl (by decide) rfl rfl rfl rfl ?_
        refine jr.iload rfl rfl ?_
        obtain ⟨v17, e17⟩ : ∃ z, M 633 ((2 * f) + v1) = z := ⟨_, rfl⟩
        have b17 : (-2147483648) ≤ v17 ∧ v17 ≤ 2147483647 := by rw [← e17]; exact (by have q := hI_M 633 ((2 * f) + v1) (by decide); rw [xri_row rfl rfl] at q; exact q)
        refine jr.iald (i := ((2 * f) + v1)) (x := v17) rfl (by decide) rfl (by decide) (by omega) (by omega) e17 ?_
        refine jr.isub rfl ?_
        refine jr.iw (j_w (v16 - v17)) (j_w_eq _) ?_
        have b18 : -2147483648 ≤ j_w (v16 - v17) ∧ j_w (v16 - v17) ≤ 2147483647 := jb_any _
        generalize j_w (v16 - v17) = v18 at b18 ⊢
        refine jr.istore rfl (by decide) rfl ?_
        refine jr.iload rfl rfl ?_
        refine jr.aload_n rfl rfl ?_
        refine jr.iload_n rfl rfl ?_
        refine jr_v rfl rfl (Or.inl rfl) rfl rfl (by decide) rfl ⟨rfl, Nat.le_of_ble_eq_true rfl, Nat.le_of_ble_eq_true rfl⟩ rfl (jc.deep (r_longOf hI_M hH_M hS_M ht_M (by omega) (by rw [hea]; omega) (by rw [hea, e14]; omega) (fun r19 z19  => ?_)) (by decide))
        refine jr.iadd rfl ?_
        refine jr.iw (j_w (v16 + r19)) (j_w_eq _) ?_
        have b20 : -2147483648 ≤ j_w (v16 + r19) ∧ j_w (v16 + r19) ≤ 2147483647 := jb_any _
        generalize j_w (v16 + r19) = v20 at b20 ⊢
        refine jr.aload_n rfl rfl ?_
        refine jr.getf (i := 45) (v := .ref 633) rfl rfl (by decide) rfl (by decide) rfl rfl rfl rfl ?_
        refine jr.iload rfl rfl ?_
        refine jr.iald (i := ((2 * f) + v1)) (x := v17) rfl (by decide) rfl (by decide) (by omega) (by omega) e17 ?_
        refine jr.isub rfl ?_
        refine jr.iw (j_w (v20 - v17)) (j_w_eq _) ?_
        have b21 : -2147483648 ≤ j_w (v20 - v17) ∧ j_w (v20 - v17) ≤ 2147483647 := jb_any _
        generalize j_w (v20 - v17) = v21 at b21 ⊢
        refine jr.istore rfl (by decide) rfl ?_
        refine jr.iload rfl rfl ?_
        refine jr.ldcw (x := (-66000)) rfl rfl (by decide) ?_
        refine jr.icmp_lt rfl rfl (by omega) (by omega) (fun h98 => ?_) (fun h98 => ?_)
        · refine jr.iconst rfl ?_
          refine jr.goto rfl rfl ?_
          exact jr.ireturn rfl rfl rfl (q _ (by omega) )
        · refine jr.aload_n rfl rfl ?_
          refine jr.getf (i := 46) (v := .ref 634) rfl rfl (by decide) rfl (by decide) rfl rfl rfl rfl ?_
          refine jr.iload rfl rfl ?_
          obtain ⟨v22, e22⟩ : ∃ z, M 634 (((2 * f) + 1) - v1) = z := ⟨_, rfl⟩
          have b22 : 0 ≤ v22 ∧ v22 ≤ 1 := by rw [← e22]; exact (by have q := hI_M 634 (((2 * f) + 1) - v1) (by decide); rw [xri_row rfl rfl] at q; exact q)
          refine jr.zald (i := (((2 * f) + 1) - v1)) (x := v22) rfl (by decide) rfl (by decide) (by omega) (by omega) e22 ?_
          refine jr.if_eq rfl rfl (by omega) (fun h108 => ?_) (fun h108 => ?_)
          · refine jr.iconst rfl ?_
            exact jr.ireturn rfl rfl rfl (q _ (by omega) )
          · refine jr.iload rfl rfl ?_
            refine jr.aload_n rfl rfl ?_
            refine jr.getf (i := 47) (v := .ref 635) rfl rfl (by decide) rfl (by decide) rfl rfl rfl rfl ?_
            refine jr.iload rfl rfl ?_
            obtain ⟨v23, e23⟩ : ∃ z, M 635 (((2 * f) + 1) - v1) = z := ⟨_, rfl⟩
            have b23 : 0 ≤ v23 ∧ v23 ≤ 65535 := by rw [← e23]; exact (by have q := hI_M 635 (((2 * f) + 1) - v1) (by decide); rw [xri_row rfl rfl] at q; exact q)
            refine jr.iald (i := (((2 * f) + 1) - v1)) (x := v23) rfl (by decide) rfl (by decide) (by omega) (by omega) e23 ?_
            refine jr.icmp_le rfl rfl (by omega) (by omega) (fun h120 => ?_) (fun h120 => ?_)
            · refine jr.iconst rfl ?_
              exact jr.ireturn rfl rfl rfl (q _ (by omega) )
            · refine jr.iconst rfl ?_
              refine jr.goto rfl rfl ?_
              exact jr.ireturn rfl rfl rfl (q _ (by omega) )
      · refine jr.iconst rfl ?_
        exact jr.ireturn rfl rfl rfl (q _ (by omega) )
theorem r_counts {A : Nat → Option (Nat × (Nat → Int32))} {Q : Option Value → jm → Prop} {T : jm} {M : jm} (hI_M : RI M) (hH_M : RH M) (hS_M : RF M) (ht_M : Kp T M) {x : Int} (h_x : 0 ≤ x ∧ x ≤ 23) {f : Int} (h_f : 0 ≤ f ∧ f ≤ 23) (p0 : (0 ≤ M 598 65 ∧ M 598 65 ≤ 11)) (p1 : (M 629 f = 6 → M 604 (M 598 65) ≤ 380)) (p2 : 0 ≤ M 598 66) (q : ∀ (M' : jm), RI M' → RH M' → RF M' → Kp T M' → (∀ (a : Nat) (i : Int), a ≠ 632 → a ≠ 633 → a ≠ 634 → a ≠ 635 → a ≠ 636 → a ≠ 637 → M' a i = M a i) → Q none M') : jc A 4 313 [.ref (598), .int (Int32.ofInt (x)), .int (Int32.ofInt (f))] M Q := by
  obtain ⟨ea, hea⟩ : ∃ z, M 598 65 = z := ⟨_, rfl⟩
  rw [hea] at p0 p1
  refine jc_of (m := xm_313) rfl (Nat.le_of_ble_eq_true rfl) rfl ?_
  refine jr.iconst rfl ?_
  refine jr.iload_n rfl rfl ?_
  refine jr.imul rfl ?_
  refine jr.aload_n rfl rfl ?_
  obtain ⟨v1, e1⟩ : ∃ z, M 598 66 = z := ⟨_, rfl⟩
  have b1 : (-1) ≤ v1 ∧ v1 ≤ 1 := by rw [← e1]; exact hI_M 598 66 (by decide)
  refine jr.getf (i := 66) (x := v1) (v := .int (Int32.ofInt (v1))) rfl rfl (by decide) rfl (by decide) rfl rfl e1 rfl ?_
  refine jr.iadd rfl ?_
  refine jr.istore_n rfl (by decide) rfl ?_
  refine jr.aload_n rfl rfl ?_
  refine jr.getf (i := 48) (v := .ref 636) rfl rfl (by decide) rfl (by decide) rfl rfl rfl rfl ?_
  refine jr.iload_n rfl rfl ?_
  refine jr.dup2 rfl ⟨rfl, rfl⟩ ?_
  obtain ⟨v2, e2⟩ : ∃ z, M 636 ((2 * f) + v1) = z := ⟨_, rfl⟩
  have b2 : (-9223372036854775808) ≤ v2 ∧ v2 ≤ 9223372036854775807 := by rw [← e2]; exact (by have q := hI_M 636 ((2 * f) + v1) (by decide); rw [xri_row rfl rfl] at q; exact q)
  refine jr.lald (i := ((2 * f) + v1)) (x := v2) rfl (by decide) rfl (by decide) (by omega) (by omega) e2 ?_
  refine jr.lconst (x := 1) rfl (by decide) ?_
  refine jr.ladd rfl ?_
  refine jr.lw (jl_w (v2 + 1)) (jl_w_eq _) ?_
  have b3 : -9223372036854775808 ≤ jl_w (v2 + 1) ∧ jl_w (v2 + 1) ≤ 9223372036854775807 := jbl_any _
  generalize jl_w (v2 + 1) = v3 at b3 ⊢
  refine jr.last (i := ((2 * f) + v1)) (x := v3) rfl (by decide) rfl (by decide) (by omega) (by omega) ?_
  refine jr.aload_n rfl rfl ?_
  refine jr.getf (i := 49) (v := .ref 637) rfl rfl (by decide) rfl (by decide) rfl rfl rfl rfl ?_
  refine jr.iload_n rfl rfl ?_
  refine jr.dup2 rfl ⟨rfl, rfl⟩ ?_
  obtain ⟨v4, e4⟩ : ∃ z, M 637 ((2 * f) + v1) = z := ⟨_, rfl⟩
  have b4 : (-9223372036854775808) ≤ v4 ∧ v4 ≤ 9223372036854775807 := by rw [← e4]; exact (by have q := hI_M 637 ((2 * f) + v1) (by decide); rw [xri_row rfl rfl] at q; exact q)
  refine jr.lald (i := ((2 * f) + v1)) (x := v4) rfl (by decide) rfl (by decide) (by omega) (by omega) ((ju_c _ _ (by decide)).trans e4) ?_
  refine jr.aload_n rfl rfl ?_
  refine jr.getf (i := 3) (v := .ref 600) rfl rfl (by decide) rfl (by decide) rfl rfl rfl rfl ?_
  refine jr.iload_n rfl rfl ?_
  obtain ⟨v5, e5⟩ : ∃ z, M 600 x = z := ⟨_, rfl⟩
  have b5 : (-1) ≤ v5 ∧ v5 ≤ 400 := by rw [← e5]; exact (by have q := hI_M 600 x (by decide); rw [xri_row rfl rfl] at q; exact q)
  refine jr.iald (i := x) (x := v5) rfl (by decide) rfl (by decide) (by omega) (by omega) ((ju_c _ _ (by decide)).trans e5) ?_
  refine jr.i2l rfl (by omega) ?_
  refine jr.ladd rfl ?_
  refine jr.lw (jl_w (v4 + v5)) (jl_w_eq _) ?_
  have b6 : -9223372036854775808 ≤ jl_w (v4 + v5) ∧ jl_w (v4 + v5) ≤ 9223372036854775807 := jbl_any _
  generalize jl_w (v4 + v5) = v6 at b6 ⊢
  refine jr.last (i := ((2 * f) + v1)) (x := v6) rfl (by decide) rfl (by decide) (by omega) (by omega) ?_
  refine jr.aload_n rfl rfl ?_
  refine jr.getf (i := 46) (v := .ref 634) rfl rfl (by decide) rfl (by decide) rfl rfl rfl rfl ?_
  refine jr.iload_n rfl rfl ?_
  refine jr.iconst rfl ?_
  refine jr.zast (i := ((2 * f) + v1)) (x := 1) rfl (by decide) rfl (by decide) (by omega) (by omega) (j_zn (by omega)) ?_
  refine jr.aload_n rfl rfl ?_
  refine jr.getf (i := 41) (v := .ref 629) rfl rfl (by decide) rfl (by decide) rfl rfl rfl rfl ?_
  refine jr.iload_n rfl rfl ?_
  obtain ⟨v7, e7⟩ : ∃ z, M 629 f = z := ⟨_, rfl⟩
  have b7 : 0 ≤ v7 ∧ v7 ≤ 255 := by rw [← e7]; exact (by have q := hI_M 629 f (by decide); rw [xri_row rfl rfl] at q; exact q)
  refine jr.iald (i := f) (x := v7) rfl (by decide) rfl (by decide) (by omega) (by omega) ((ju_c _ _ (by decide)).trans ((ju_c _ _ (by decide)).trans ((ju_c _ _ (by decide)).trans e7))) ?_
  refine jr.bipush rfl (by decide) ?_
  refine jr.icmp_eq rfl rfl (by omega) (by omega) (fun h50 => ?_) (fun h50 => ?_)
  · refine jr.aload_n rfl rfl ?_
    refine jr.iload_n rfl rfl ?_
    refine jr.aload_n rfl rfl ?_
    refine jr.getf (i := 8) (v := .ref 604) rfl rfl (by decide) rfl (by decide) rfl rfl rfl rfl ?_
    refine jr.aload_n rfl rfl ?_
    refine jr.getf (i := 65) (x := ea) (v := .int (Int32.ofInt (ea))) rfl rfl (by decide) rfl (by decide) rfl rfl ((ju_c _ _ (by decide)).trans ((ju_c _ _ (by decide)).trans ((ju_c _ _ (by decide)).trans hea))) rfl ?_
    obtain ⟨v8, e8⟩ : ∃ z, M 604 ea = z := ⟨_, rfl⟩
    have b8 : 0 ≤ v8 ∧ v8 ≤ 400 := by rw [← e8]; exact (by have q := hI_M 604 ea (by decide); rw [xri_row rfl rfl] at q; exact q)
    refine jr.iald (i := ea) (x := v8) rfl (by decide) rfl (by decide) (by omega) (by omega) ((ju_c _ _ (by decide)).trans ((ju_c _ _ (by decide)).trans ((ju_c _ _ (by decide)).trans e8))) ?_
    refine jr.iconst rfl ?_
    refine jr.iadd rfl ?_
    refine jr_v rfl rfl (Or.inl rfl) rfl rfl (by decide) rfl ⟨rfl, Nat.le_of_ble_eq_true rfl, Nat.le_of_ble_eq_true rfl⟩ rfl (jc.deep (r_four (RI.u (RI.u (RI.u hI_M (a := 636) (i := ((2 * f) + v1)) (by rw [xri_row rfl rfl]; show (-9223372036854775808 : Int) ≤ _ ∧ _ ≤ (9223372036854775807 : Int); omega)) (a := 637) (i := ((2 * f) + v1)) (by rw [xri_row rfl rfl]; show (-9223372036854775808 : Int) ≤ _ ∧ _ ≤ (9223372036854775807 : Int); omega)) (a := 634) (i := ((2 * f) + v1)) (by rw [xri_row rfl rfl]; show (0 : Int) ≤ _ ∧ _ ≤ (1 : Int); omega)) (RH.o (RH.o (RH.o hH_M (by decide) (by decide) (by decide)) (by decide) (by decide) (by decide)) (by decide) (by decide) (by decide)) (RF.o (RF.o (RF.o hS_M (by decide) (by decide)) (by decide) (by decide)) (by decide) (by decide)) (Kp.o (Kp.o (Kp.o ht_M rfl) rfl) rfl) (by omega) (by omega)  (fun r9 z9  => ?_)) (by decide))
    refine jr.l2i rfl ?_
    refine jr.iw (j_w r9) (j_w_eq _) ?_
    have b10 : -2147483648 ≤ j_w r9 ∧ j_w r9 ≤ 2147483647 := jb_any _
    generalize j_w r9 = v10 at b10 ⊢
    refine jr.aload_n rfl rfl ?_
    refine jr.iload_n rfl rfl ?_
    refine jr_v rfl rfl (Or.inl rfl) rfl rfl (by decide) rfl ⟨rfl, Nat.le_of_ble_eq_true rfl, Nat.le_of_ble_eq_true rfl⟩ rfl (jc.deep (r_longOf (RI.u (RI.u (RI.u hI_M (a := 636) (i := ((2 * f) + v1)) (by rw [xri_row rfl rfl]; show (-9223372036854775808 : Int) ≤ _ ∧ _ ≤ (9223372036854775807 : Int); omega)) (a := 637) (i := ((2 * f) + v1)) (by rw [xri_row rfl rfl]; show (-9223372036854775808 : Int) ≤ _ ∧ _ ≤ (9223372036854775807 : Int); omega)) (a := 634) (i := ((2 * f) + v1)) (by rw [xri_row rfl rfl]; show (0 : Int) ≤ _ ∧ _ ≤ (1 : Int); omega)) (RH.o (RH.o (RH.o hH_M (by decide) (by decide) (by decide)) (by decide) (by decide) (by decide)) (by decide) (by decide) (by decide)) (RF.o (RF.o (RF.o hS_M (by decide) (by decide)) (by decide) (by decide)) (by decide) (by decide)) (Kp.o (Kp.o (Kp.o ht_M rfl) rfl) rfl) (by omega) (by rw [((ju_c _ _ (by decide)).trans ((ju_c _ _ (by decide)).trans ((ju_c _ _ (by decide)).trans hea)))]; omega) (by rw [((ju_c _ _ (by decide)).trans ((ju_c _ _ (by decide)).trans ((ju_c _ _ (by decide)).trans hea))), ((ju_c _ _ (by decide)).trans ((ju_c _ _ (by decide)).trans ((ju_c _ _ (by decide)).trans e8)))]; omega) (fun r11 z11  => ?_)) (by decide))
    refine jr.iadd rfl ?_
    refine jr.iw (j_w (v10 + r11)) (j_w_eq _) ?_
    have b12 : -2147483648 ≤ j_w (v10 + r11) ∧ j_w (v10 + r11) ≤ 2147483647 := jb_any _
    generalize j_w (v10 + r11) = v12 at b12 ⊢
    refine jr.istore rfl (by decide) rfl ?_
    refine jr.aload_n rfl rfl ?_
    refine jr.getf (i := 44) (v := .ref 632) rfl rfl (by decide) rfl (by decide) rfl rfl rfl rfl ?_
    refine jr.iload_n rfl rfl ?_
    obtain ⟨v13, e13⟩ : ∃ z, M 632 ((2 * f) + v1) = z := ⟨_, rfl⟩
    have b13 : 0 ≤ v13 ∧ v13 ≤ 1 := by rw [← e13]; exact (by have q := hI_M 632 ((2 * f) + v1) (by decide); rw [xri_row rfl rfl] at q; exact q)
    refine jr.zald (i := ((2 * f) + v1)) (x := v13) rfl (by decide) rfl (by decide) (by omega) (by omega) ((ju_c _ _ (by decide)).trans ((ju_c _ _ (by decide)).trans ((ju_c _ _ (by decide)).trans e13))) ?_
    refine jr.if_eq rfl rfl (by omega) (fun h85 => ?_) (fun h85 => ?_)
    · refine jr.aload_n rfl rfl ?_
      refine jr.getf (i := 45) (v := .ref 633) rfl rfl (by decide) rfl (by decide) rfl rfl rfl rfl ?_
      refine jr.iload_n rfl rfl ?_
      refine jr.iload rfl rfl ?_
      refine jr.iast (i := ((2 * f) + v1)) (x := v12) rfl (by decide) rfl (by decide) (by omega) (by omega) ?_
      refine jr.aload_n rfl rfl ?_
      refine jr.getf (i := 44) (v := .ref 632) rfl rfl (by decide) rfl (by decide) rfl rfl rfl rfl ?_
      refine jr.iload_n rfl rfl ?_
      refine jr.iconst rfl ?_
      refine jr.zast (i := ((2 * f) + v1)) (x := 1) rfl (by decide) rfl (by decide) (by omega) (by omega) (j_zn (by omega)) ?_
      refine jr.aload_n rfl rfl ?_
      refine jr.getf (i := 47) (v := .ref 635) rfl rfl (by decide) rfl (by decide) rfl rfl rfl rfl ?_
      refine jr.iload_n rfl rfl ?_
      refine jr.aload_n rfl rfl ?_
      refine jr.iload_n rfl rfl ?_
      refine jr.aload_n rfl rfl ?_
      refine jr.getf (i := 8) (v := .ref 604) rfl rfl (by decide) rfl (by decide) rfl rfl rfl rfl ?_
      refine jr.aload_n rfl rfl ?_
      refine jr.getf (i := 65) (x := ea) (v := .int (Int32.ofInt (ea))) rfl rfl (by decide) rfl (by decide) rfl rfl ((ju_c _ _ (by decide)).trans ((ju_c _ _ (by decide)).trans ((ju_c _ _ (by decide)).trans ((ju_c _ _ (by decide)).trans ((ju_c _ _ (by decide)).trans hea))))) rfl ?_
      refine jr.iald (i := ea) (x := v8) rfl (by decide) rfl (by decide) (by omega) (by omega) ((ju_c _ _ (by decide)).trans ((ju_c _ _ (by decide)).trans ((ju_c _ _ (by decide)).trans ((ju_c _ _ (by decide)).trans ((ju_c _ _ (by decide)).trans e8))))) ?_
      refine jr.bipush rfl (by decide) ?_
      refine jr.iadd rfl ?_
      refine jr_v rfl rfl (Or.inl rfl) rfl rfl (by decide) rfl ⟨rfl, Nat.le_of_ble_eq_true rfl, Nat.le_of_ble_eq_true rfl⟩ rfl (jc.deep (r_two (RI.u (RI.u (RI.u (RI.u (RI.u hI_M (a := 636) (i := ((2 * f) + v1)) (by rw [xri_row rfl rfl]; show (-9223372036854775808 : Int) ≤ _ ∧ _ ≤ (9223372036854775807 : Int); omega)) (a := 637) (i := ((2 * f) + v1)) (by rw [xri_row rfl rfl]; show (-9223372036854775808 : Int) ≤ _ ∧ _ ≤ (9223372036854775807 : Int); omega)) (a := 634) (i := ((2 * f) + v1)) (by rw [xri_row rfl rfl]; show (0 : Int) ≤ _ ∧ _ ≤ (1 : Int); omega)) (a := 633) (i := ((2 * f) + v1)) (by rw [xri_row rfl rfl]; show (-2147483648 : Int) ≤ _ ∧ _ ≤ (2147483647 : Int); omega)) (a := 632) (i := ((2 * f) + v1)) (by rw [xri_row rfl rfl]; show (0 : Int) ≤ _ ∧ _ ≤ (1 : Int); omega)) (RH.o (RH.o (RH.o (RH.o (RH.o hH_M (by decide) (by decide) (by decide)) (by decide) (by decide) (by decide)) (by decide) (by decide) (by decide)) (by decide) (by decide) (by decide)) (by decide) (by decide) (by decide)) (RF.o (RF.o (RF.o (RF.o (RF.o hS_M (by decide) (by decide)) (by decide) (by decide)) (by decide) (by decide)) (by decide) (by decide)) (by decide) (by decide)) (Kp.o (Kp.o (Kp.o (Kp.o (Kp.o ht_M rfl) rfl) rfl) rfl) rfl) (by omega) (by omega)  (fun r14 z14  => ?_)) (by decide))
      refine jr.iast (i := ((2 * f) + v1)) (x := r14) rfl (by decide) rfl (by decide) (by omega) (by omega) ?_
      exact jr.vreturn rfl rfl (q _ (RI.u (RI.u (RI.u (RI.u (RI.u (RI.u hI_M (a := 636) (i := ((2 * f) + v1)) (by rw [xri_row rfl rfl]; show (-9223372036854775808 : Int) ≤ _ ∧ _ ≤ (9223372036854775807 : Int); omega)) (a := 637) (i := ((2 * f) + v1)) (by rw [xri_row rfl rfl]; show (-9223372036854775808 : Int) ≤ _ ∧ _ ≤ (9223372036854775807 : Int); omega)) (a := 634) (i := ((2 * f) + v1)) (by rw [xri_row rfl rfl]; show (0 : Int) ≤ _ ∧ _ ≤ (1 : Int); omega)) (a := 633) (i := ((2 * f) + v1)) (by rw [xri_row rfl rfl]; show (-2147483648 : Int) ≤ _ ∧ _ ≤ (2147483647 : Int); omega)) (a := 632) (i := ((2 * f) + v1)) (by rw [xri_row rfl rfl]; show (0 : Int) ≤ _ ∧ _ ≤ (1 : Int); omega)) (a := 635) (i := ((2 * f) + v1)) (by rw [xri_row rfl rfl]; show (0 : Int) ≤ _ ∧ _ ≤ (65535 : Int); omega)) (RH.o (RH.o (RH.o (RH.o (RH.o (RH.o hH_M (by decide) (by decide) (by decide)) (by decide) (by decide) (by decide)) (by decide) (by decide) (by decide)) (by decide) (by decide) (by decide)) (by decide) (by decide) (by decide)) (by decide) (by decide) (by decide)) (RF.o (RF.o (RF.o (RF.o (RF.o (RF.o hS_M (by decide) (by decide)) (by decide) (by decide)) (by decide) (by decide)) (by decide) (by decide)) (by decide) (by decide)) (by decide) (by decide)) (Kp.o (Kp.o (Kp.o (Kp.o (Kp.o (Kp.o ht_M rfl) rfl) rfl) rfl) rfl) rfl) (fun a i f632 f633 f634 f635 f636 f637 => ((ju_c _ _ f635).trans ((ju_c _ _ f632).trans ((ju_c _ _ f633).trans ((ju_c _ _ f634).trans ((ju_c _ _ f637).trans ((ju_c _ _ f636).trans rfl))))))))
    · refine jr.iload rfl rfl ?_
      refine jr.aload_n rfl rfl ?_
      refine jr.getf (i := 45) (v := .ref 633) rfl rfl (by decide) rfl (by decide) rfl rfl rfl rfl ?_
      refine jr.iload_n rfl rfl ?_
      obtain ⟨v15, e15⟩ : ∃ z, M 633 ((2 * f) + v1) = z := ⟨_, rfl⟩
      have b15 : (-2147483648) ≤ v15 ∧ v15 ≤ 2147483647 := by rw [← e15]; exact (by have q := hI_M 633 ((2 * f) + v1) (by decide); rw [xri_row rfl rfl] at q; exact q)
      refine jr.iald (i := ((2 * f) + v1)) (x := v15) rfl (by decide) rfl (by decide) (by omega) (by omega) ((ju_c _ _ (by decide)).trans ((ju_c _ _ (by decide)).trans ((ju_c _ _ (by decide)).trans e15))) ?_
      refine jr.isub rfl ?_
      refine jr.iw (j_w (v12 - v15)) (j_w_eq _) ?_
      have b16 : -2147483648 ≤ j_w (v12 - v15) ∧ j_w (v12 - v15) ≤ 2147483647 := jb_any _
      generalize j_w (v12 - v15) = v16 at b16 ⊢
      refine jr.if_le rfl rfl (by omega) (fun h97 => ?_) (fun h97 => ?_)
      · refine jr.aload_n rfl rfl ?_
        refine jr.getf (i := 44) (v := .ref 632) rfl rfl (by decide) rfl (by decide) rfl rfl rfl rfl ?_
        refine jr.iload_n rfl rfl ?_
        refine jr.iconst rfl ?_
        refine jr.zast (i := ((2 * f) + v1)) (x := 1) rfl (by decide) rfl (by decide) (by omega) (by omega) (j_zn (by omega)) ?_
        refine jr.aload_n rfl rfl ?_
        refine jr.getf (i := 47) (v := .ref 635) rfl rfl (by decide) rfl (by decide) rfl rfl rfl rfl ?_
        refine jr.iload_n rfl rfl ?_
        refine jr.aload_n rfl rfl ?_
        refine jr.iload_n rfl rfl ?_
        refine jr.aload_n rfl rfl ?_
        refine jr.getf (i := 8) (v := .ref 604) rfl rfl (by decide) rfl (by decide) rfl rfl rfl rfl ?_
        refine jr.aload_n rfl rfl ?_
        refine jr.getf (i := 65) (x := ea) (v := .int (Int32.ofInt (ea))) rfl rfl (by decide) rfl (by decide) rfl rfl ((ju_c _ _ (by decide)).trans ((ju_c _ _ (by decide)).trans ((ju_c _ _ (by decide)).trans ((ju_c _ _ (by decide)).trans hea)))) rfl ?_
        refine jr.iald (i := ea) (x := v8) rfl (by decide) rfl (by decide) (by omega) (by omega) ((ju_c _ _ (by decide)).trans ((ju_c _ _ (by decide)).trans ((ju_c _ _ (by decide)).trans ((ju_c _ _ (by decide)).trans e8)))) ?_
        refine jr.bipush rfl (by decide) ?_
        refine jr.iadd rfl ?_
        refine jr_v rfl rfl (Or.inl rfl) rfl rfl (by decide) rfl ⟨rfl, Nat.le_of_ble_eq_true rfl, Nat.le_of_ble_eq_true rfl⟩ rfl (jc.deep (r_two (RI.u (RI.u (RI.u (RI.u hI_M (a := 636) (i := ((2 * f) + v1)) (by rw [xri_row rfl rfl]; show (-9223372036854775808 : Int) ≤ _ ∧ _ ≤ (9223372036854775807 : Int); omega)) (a := 637) (i := ((2 * f) + v1)) (by rw [xri_row rfl rfl]; show (-9223372036854775808 : Int) ≤ _ ∧ _ ≤ (9223372036854775807 : Int); omega)) (a := 634) (i := ((2 * f) + v1)) (by rw [xri_row rfl rfl]; show (0 : Int) ≤ _ ∧ _ ≤ (1 : Int); omega)) (a := 632) (i := ((2 * f) + v1)) (by rw [xri_row rfl rfl]; show (0 : Int) ≤ _ ∧ _ ≤ (1 : Int); omega)) (RH.o (RH.o (RH.o (RH.o hH_M (by decide) (by decide) (by decide)) (by decide) (by decide) (by decide)) (by decide) (by decide) (by decide)) (by decide) (by decide) (by decide)) (RF.o (RF.o (RF.o (RF.o hS_M (by decide) (by decide)) (by decide) (by decide)) (by decide) (by decide)) (by decide) (by decide)) (Kp.o (Kp.o (Kp.o (Kp.o ht_M rfl) rfl) rfl) rfl) (by omega) (by omega)  (fun r17 z17  => ?_)) (by decide))
        refine jr.iast (i := ((2 * f) + v1)) (x := r17) rfl (by decide) rfl (by decide) (by omega) (by omega) ?_
        exact jr.vreturn rfl rfl (q _ (RI.u (RI.u (RI.u (RI.u (RI.u hI_M (a := 636) (i := ((2 * f) + v1)) (by rw [xri_row rfl rfl]; show (-9223372036854775808 : Int) ≤ _ ∧ _ ≤ (9223372036854775807 : Int); omega)) (a := 637) (i := ((2 * f) + v1)) (by rw [xri_row rfl rfl]; show (-9223372036854775808 : Int) ≤ _ ∧ _ ≤ (9223372036854775807 : Int); omega)) (a := 634) (i := ((2 * f) + v1)) (by rw [xri_row rfl rfl]; show (0 : Int) ≤ _ ∧ _ ≤ (1 : Int); omega)) (a := 632) (i := ((2 * f) + v1)) (by rw [xri_row rfl rfl]; show (0 : Int) ≤ _ ∧ _ ≤ (1 : Int); omega)) (a := 635) (i := ((2 * f) + v1)) (by rw [xri_row rfl rfl]; show (0 : Int) ≤ _ ∧ _ ≤ (65535 : Int); omega)) (RH.o (RH.o (RH.o (RH.o (RH.o hH_M (by decide) (by decide) (by decide)) (by decide) (by decide) (by decide)) (by decide) (by decide) (by decide)) (by decide) (by decide) (by decide)) (by decide) (by decide) (by decide)) (RF.o (RF.o (RF.o (RF.o (RF.o hS_M (by decide) (by decide)) (by decide) (by decide)) (by decide) (by decide)) (by decide) (by decide)) (by decide) (by decide)) (Kp.o (Kp.o (Kp.o (Kp.o (Kp.o ht_M rfl) rfl) rfl) rfl) rfl) (fun a i f632 f633 f634 f635 f636 f637 => ((ju_c _ _ f635).trans ((ju_c _ _ f632).trans ((ju_c _ _ f634).trans ((ju_c _ _ f637).trans ((ju_c _ _ f636).trans rfl)))))))
      · refine jr.aload_n rfl rfl ?_
        refine jr.getf (i := 45) (v := .ref 633) rfl rfl (by decide) rfl (by decide) rfl rfl rfl rfl ?_
        refine jr.iload_n rfl rfl ?_
        refine jr.iload rfl rfl ?_
        refine jr.iast (i := ((2 * f) + v1)) (x := v12) rfl (by decide) rfl (by decide) (by omega) (by omega) ?_
        refine jr.aload_n rfl rfl ?_
        refine jr.getf (i := 44) (v := .ref 632) rfl rfl (by decide) rfl (by decide) rfl rfl rfl rfl ?_
        refine jr.iload_n rfl rfl ?_
        refine jr.iconst rfl ?_
        refine jr.zast (i := ((2 * f) + v1)) (x := 1) rfl (by decide) rfl (by decide) (by omega) (by omega) (j_zn (by omega)) ?_
        refine jr.aload_n rfl rfl ?_
        refine jr.getf (i := 47) (v := .ref 635) rfl rfl (by decide) rfl (by decide) rfl rfl rfl rfl ?_
        refine jr.iload_n rfl rfl ?_
        refine jr.aload_n rfl rfl ?_
        refine jr.iload_n rfl rfl ?_
        refine jr.aload_n rfl rfl ?_
        refine jr.getf (i := 8) (v := .ref 604) rfl rfl (by decide) rfl (by decide) rfl rfl rfl rfl ?_
        refine jr.aload_n rfl rfl ?_
        refine jr.getf (i := 65) (x := ea) (v := .int (Int32.ofInt (ea))) rfl rfl (by decide) rfl (by decide) rfl rfl ((ju_c _ _ (by decide)).trans ((ju_c _ _ (by decide)).trans ((ju_c _ _ (by decide)).trans ((ju_c _ _ (by decide)).trans ((ju_c _ _ (by decide)).trans hea))))) rfl ?_
        refine jr.iald (i := ea) (x := v8) rfl (by decide) rfl (by decide) (by omega) (by omega) ((ju_c _ _ (by decide)).trans ((ju_c _ _ (by decide)).trans ((ju_c _ _ (by decide)).trans ((ju_c _ _ (by decide)).trans ((ju_c _ _ (by decide)).trans e8))))) ?_
        refine jr.bipush rfl (by decide) ?_
        refine jr.iadd rfl ?_
        refine jr_v rfl rfl (Or.inl rfl) rfl rfl (by decide) rfl ⟨rfl, Nat.le_of_ble_eq_true rfl, Nat.le_of_ble_eq_true rfl⟩ rfl (jc.deep (r_two (RI.u (RI.u (RI.u (RI.u (RI.u hI_M (a := 636) (i := ((2 * f) + v1)) (by rw [xri_row rfl rfl]; show (-9223372036854775808 : Int) ≤ _ ∧ _ ≤ (9223372036854775807 : Int); omega)) (a := 637) (i := ((2 * f) + v1)) (by rw [xri_row rfl rfl]; show (-9223372036854775808 : Int) ≤ _ ∧ _ ≤ (9223372036854775807 : Int); omega)) (a := 634) (i := ((2 * f) + v1)) (by rw [xri_row rfl rfl]; show (0 : Int) ≤ _ ∧ _ ≤ (1 : Int); omega)) (a := 633) (i := ((2 * f) + v1)) (by rw [xri_row rfl rfl]; show (-2147483648 : Int) ≤ _ ∧ _ ≤ (2147483647 : Int); omega)) (a := 632) (i := ((2 * f) + v1)) (by rw [xri_row rfl rfl]; show (0 : Int) ≤ _ ∧ _ ≤ (1 : Int); omega)) (RH.o (RH.o (RH.o (RH.o (RH.o hH_M (by decide) (by decide) (by decide)) (by decide) (by decide) (by decide)) (by decide) (by decide) (by decide)) (by decide) (by decide) (by decide)) (by decide) (by decide) (by decide)) (RF.o (RF.o (RF.o (RF.o (RF.o hS_M (by decide) (by decide)) (by decide) (by decide)) (by decide) (by decide)) (by decide) (by decide)) (by decide) (by decide)) (Kp.o (Kp.o (Kp.o (Kp.o (Kp.o ht_M rfl) rfl) rfl) rfl) rfl) (by omega) (by omega)  (fun r18 z18  => ?_)) (by decide))
        refine jr.iast (i := ((2 * f) + v1)) (x := r18) rfl (by decide) rfl (by decide) (by omega) (by omega) ?_
        exact jr.vreturn rfl rfl (q _ (RI.u (RI.u (RI.u (RI.u (RI.u (RI.u hI_M (a := 636) (i := ((2 * f) + v1)) (by rw [xri_row rfl rfl]; show (-9223372036854775808 : Int) ≤ _ ∧ _ ≤ (9223372036854775807 : Int); omega)) (a := 637) (i := ((2 * f) + v1)) (by rw [xri_row rfl rfl]; show (-9223372036854775808 : Int) ≤ _ ∧ _ ≤ (9223372036854775807 : Int); omega)) (a := 634) (i := ((2 * f) + v1)) (by rw [xri_row rfl rfl]; show (0 : Int) ≤ _ ∧ _ ≤ (1 : Int); omega)) (a := 633) (i := ((2 * f) + v1)) (by rw [xri_row rfl rfl]; show (-2147483648 : Int) ≤ _ ∧ _ ≤ (2147483647 : Int); omega)) (a := 632) (i := ((2 * f) + v1)) (by rw [xri_row rfl rfl]; show (0 : Int) ≤ _ ∧ _ ≤ (1 : Int); omega)) (a := 635) (i := ((2 * f) + v1)) (by rw [xri_row rfl rfl]; show (0 : Int) ≤ _ ∧ _ ≤ (65535 : Int); omega)) (RH.o (RH.o (RH.o (RH.o (RH.o (RH.o hH_M (by decide) (by decide) (by decide)) (by decide) (by decide) (by decide)) (by decide) (by decide) (by decide)) (by decide) (by decide) (by decide)) (by decide) (by decide) (by decide)) (by decide) (by decide) (by decide)) (RF.o (RF.o (RF.o (RF.o (RF.o (RF.o hS_M (by decide) (by decide)) (by decide) (by decide)) (by decide) (by decide)) (by decide) (by decide)) (by decide) (by decide)) (by decide) (by decide)) (Kp.o (Kp.o (Kp.o (Kp.o (Kp.o (Kp.o ht_M rfl) rfl) rfl) rfl) rfl) rfl) (fun a i f632 f633 f634 f635 f636 f637 => ((ju_c _ _ f635).trans ((ju_c _ _ f632).trans ((ju_c _ _ f633).trans ((ju_c _ _ f634).trans ((ju_c _ _ f637).trans ((ju_c _ _ f636).trans rfl))))))))
  · exact jr.vreturn rfl rfl (q _ (RI.u (RI.u (RI.u hI_M (a := 636) (i := ((2 * f) + v1)) (by rw [xri_row rfl rfl]; show (-9223372036854775808 : Int) ≤ _ ∧ _ ≤ (9223372036854775807 : Int); omega)) (a := 637) (i := ((2 * f) + v1)) (by rw [xri_row rfl rfl]; show (-9223372036854775808 : Int) ≤ _ ∧ _ ≤ (9223372036854775807 : Int); omega)) (a := 634) (i := ((2 * f) + v1)) (by rw [xri_row rfl rfl]; show (0 : Int) ≤ _ ∧ _ ≤ (1 : Int); omega)) (RH.o (RH.o (RH.o hH_M (by decide) (by decide) (by decide)) (by decide) (by decide) (by decide)) (by decide) (by decide) (by decide)) (RF.o (RF.o (RF.o hS_M (by decide) (by decide)) (by decide) (by decide)) (by decide) (by decide)) (Kp.o (Kp.o (Kp.o ht_M rfl) rfl) rfl) (fun a i f632 f633 f634 f635 f636 f637 => ((ju_c _ _ f634).trans ((ju_c _ _ f637).trans ((ju_c _ _ f636).trans rfl)))))
theorem r_beginFlow_L5 {A : Nat → Option (Nat × (Nat → Int32))} {Q : Option Value → jm → Prop} {T : jm} {M0 : jm} (q : ∀ (r : Int) (M' : jm), RI M' → RH M' → Kp T M' → (-1) ≤ r ∧ r ≤ 23 → RFx M' r → (r = -1 ∨ M' 629 r = M0 598 60) → (∀ (a : Nat) (i : Int), a ≠ 627 → a ≠ 628 → a ≠ 629 → a ≠ 630 → a ≠ 631 → a ≠ 632 → a ≠ 633 → a ≠ 634 → a ≠ 635 → a ≠ 636 → a ≠ 637 → a ≠ 640 → M' a i = M0 a i) → Q (some (.int (Int32.ofInt r))) M') : ∀ (nM : Nat) (M : jm) (k : Int) (f : Int), RI M → RH M → RF M → Kp T M → (∀ (a : Nat) (i : Int), a ≠ 627 → a ≠ 628 → a ≠ 629 → a ≠ 630 → a ≠ 631 → a ≠ 632 → a ≠ 633 → a ≠ 634 → a ≠ 635 → a ≠ 636 → a ≠ 637 → a ≠ 640 → M a i = M0 a i) → (-1) ≤ k ∧ k ≤ 23 → (-1) ≤ f ∧ f ≤ 23 → k + 1 ≤ nM → jr A 1 xm_310 5 [(2, .int (Int32.ofInt (k))), (1, .int (Int32.ofInt (f))), (0, .ref (598))] [] M Q := by
  intro nM
  induction nM using Nat.strongRecOn with
  | ind nM ih =>
    intro M k f hI_M hH_M hS_M ht_M hF_M h_k h_f hm
    refine jr.iload_n rfl rfl ?_
    refine jr.if_lt rfl rfl (by omega) (fun h6 => ?_) (fun h6 => ?_)
    · refine jr.iload_n rfl rfl ?_
      refine jr.iconst rfl ?_
      refine jr.icmp_ne rfl rfl (by omega) (by omega) (fun h32 => ?_) (fun h32 => ?_)
      · refine jr.aload_n rfl rfl ?_
        refine jr.getf (i := 39) (v := .ref 627) rfl rfl (by decide) rfl (by decide) rfl rfl rfl rfl ?_
        refine jr.iload_n rfl rfl ?_
        refine jr.iconst rfl ?_
        refine jr.zast (i := f) (x := 1) rfl (by decide) rfl (by decide) (by omega) (by omega) (j_zn (by omega)) ?_
        refine jr.aload_n rfl rfl ?_
        refine jr.getf (i := 40) (v := .ref 628) rfl rfl (by decide) rfl (by decide) rfl rfl rfl rfl ?_
        refine jr.iload_n rfl rfl ?_
        refine jr.aload_n rfl rfl ?_
        obtain ⟨v1, e1⟩ : ∃ z, M 598 59 = z := ⟨_, rfl⟩
        have b1 : 0 ≤ v1 ∧ v1 ≤ 1 := by rw [← e1]; exact hI_M 598 59 (by decide)
        refine jr.getf (i := 59) (x := v1) (v := .int (Int32.ofInt (v1))) rfl rfl (by decide) rfl (by decide) rfl rfl ((ju_c _ _ (by decide)).trans e1) rfl ?_
        refine jr.zast (i := f) (x := v1) rfl (by decide) rfl (by decide) (by omega) (by omega) (j_zn (by omega)) ?_
        refine jr.aload_n rfl rfl ?_
        refine jr.getf (i := 41) (v := .ref 629) rfl rfl (by decide) rfl (by decide) rfl rfl rfl rfl ?_
        refine jr.iload_n rfl rfl ?_
        refine jr.aload_n rfl rfl ?_
        obtain ⟨v2, e2⟩ : ∃ z, M 598 60 = z := ⟨_, rfl⟩
        have b2 : 0 ≤ v2 ∧ v2 ≤ 255 := by rw [← e2]; exact hI_M 598 60 (by decide)
        refine jr.getf (i := 60) (x := v2) (v := .int (Int32.ofInt (v2))) rfl rfl (by decide) rfl (by decide) rfl rfl ((ju_c _ _ (by decide)).trans ((ju_c _ _ (by decide)).trans e2)) rfl ?_
        refine jr.iast (i := f) (x := v2) rfl (by decide) rfl (by decide) (by omega) (by omega) ?_
        refine jr.aload_n rfl rfl ?_
        refine jr.getf (i := 42) (v := .ref 630) rfl rfl (by decide) rfl (by decide) rfl rfl rfl rfl ?_
        refine jr.iconst rfl ?_
        refine jr.iload_n rfl rfl ?_
        refine jr.imul rfl ?_
        refine jr.aload_n rfl rfl ?_
        obtain ⟨v3, e3⟩ : ∃ z, M 598 61 = z := ⟨_, rfl⟩
        have b3 : (-9223372036854775808) ≤ v3 ∧ v3 ≤ 9223372036854775807 := by rw [← e3]; exact hI_M 598 61 (by decide)
        refine jr.getf (i := 61) (x := v3) (v := .long (Int64.ofInt (v3))) rfl rfl (by decide) rfl (by decide) rfl rfl ((ju_c _ _ (by decide)).trans ((ju_c _ _ (by decide)).trans ((ju_c _ _ (by decide)).trans e3))) rfl ?_
        refine jr.last (i := (2 * f)) (x := v3) rfl (by decide) rfl (by decide) (by omega) (by omega) ?_
        refine jr.aload_n rfl rfl ?_
        refine jr.getf (i := 42) (v := .ref 630) rfl rfl (by decide) rfl (by decide) rfl rfl rfl rfl ?_
        refine jr.iconst rfl ?_
        refine jr.iload_n rfl rfl ?_
        refine jr.imul rfl ?_
        refine jr.iconst rfl ?_
        refine jr.iadd rfl ?_
        refine jr.aload_n rfl rfl ?_
        obtain ⟨v4, e4⟩ : ∃ z, M 598 62 = z := ⟨_, rfl⟩
        have b4 : (-9223372036854775808) ≤ v4 ∧ v4 ≤ 9223372036854775807 := by rw [← e4]; exact hI_M 598 62 (by decide)
        refine jr.getf (i := 62) (x := v4) (v := .long (Int64.ofInt (v4))) rfl rfl (by decide) rfl (by decide) rfl rfl ((ju_c _ _ (by decide)).trans ((ju_c _ _ (by decide)).trans ((ju_c _ _ (by decide)).trans ((ju_c _ _ (by decide)).trans e4)))) rfl ?_
        refine jr.last (i := ((2 * f) + 1)) (x := v4) rfl (by decide) rfl (by decide) (by omega) (by omega) ?_
        refine jr.aload_n rfl rfl ?_
        refine jr.getf (i := 43) (v := .ref 631) rfl rfl (by decide) rfl (by decide) rfl rfl rfl rfl ?_
        refine jr.iconst rfl ?_
        refine jr.iload_n rfl rfl ?_
        refine jr.imul rfl ?_
        refine jr.aload_n rfl rfl ?_
        obtain ⟨v5, e5⟩ : ∃ z, M 598 63 = z := ⟨_, rfl⟩
        have b5 : 0 ≤ v5 ∧ v5 ≤ 65535 := by rw [← e5]; exact hI_M 598 63 (by decide)
        refine jr.getf (i := 63) (x := v5) (v := .int (Int32.ofInt (v5))) rfl rfl (by decide) rfl (by decide) rfl rfl ((ju_c _ _ (by decide)).trans ((ju_c _ _ (by decide)).trans ((ju_c _ _ (by decide)).trans ((ju_c _ _ (by decide)).trans ((ju_c _ _ (by decide)).trans e5))))) rfl ?_
        refine jr.iast (i := (2 * f)) (x := v5) rfl (by decide) rfl (by decide) (by omega) (by omega) ?_
        refine jr.aload_n rfl rfl ?_
        refine jr.getf (i := 43) (v := .ref 631) rfl rfl (by decide) rfl (by decide) rfl rfl rfl rfl ?_
        refine jr.iconst rfl ?_
        refine jr.iload_n rfl rfl ?_
        refine jr.imul rfl ?_
        refine jr.iconst rfl ?_
        refine jr.iadd rfl ?_
        refine jr.aload_n rfl rfl ?_
        obtain ⟨v6, e6⟩ : ∃ z, M 598 64 = z := ⟨_, rfl⟩
        have b6 : 0 ≤ v6 ∧ v6 ≤ 65535 := by rw [← e6]; exact hI_M 598 64 (by decide)
        refine jr.getf (i := 64) (x := v6) (v := .int (Int32.ofInt (v6))) rfl rfl (by decide) rfl (by decide) rfl rfl ((ju_c _ _ (by decide)).trans ((ju_c _ _ (by decide)).trans ((ju_c _ _ (by decide)).trans ((ju_c _ _ (by decide)).trans ((ju_c _ _ (by decide)).trans ((ju_c _ _ (by decide)).trans e6)))))) rfl ?_
        refine jr.iast (i := ((2 * f) + 1)) (x := v6) rfl (by decide) rfl (by decide) (by omega) (by omega) ?_
        refine jr.aload_n rfl rfl ?_
        refine jr.getf (i := 52) (v := .ref 640) rfl rfl (by decide) rfl (by decide) rfl rfl rfl rfl ?_
        refine jr.iload_n rfl rfl ?_
        refine jr.iconst rfl ?_
        refine jr.iast (i := f) (x := (-1)) rfl (by decide) rfl (by decide) (by omega) (by omega) ?_
        refine jr.aload_n rfl rfl ?_
        refine jr.iload_n rfl rfl ?_
        refine jr_v rfl rfl (Or.inl rfl) rfl rfl (by decide) rfl ⟨rfl, Nat.le_of_ble_eq_true rfl, Nat.le_of_ble_eq_true rfl⟩ rfl (jc.deep (r_forget (RI.u (RI.u (RI.u (RI.u (RI.u (RI.u (RI.u (RI.u hI_M (a := 627) (i := f) (by rw [xri_row rfl rfl]; show (0 : Int) ≤ _ ∧ _ ≤ (1 : Int); omega)) (a := 628) (i := f) (by rw [xri_row rfl rfl]; show (0 : Int) ≤ _ ∧ _ ≤ (1 : Int); omega)) (a := 629) (i := f) (by rw [xri_row rfl rfl]; show (0 : Int) ≤ _ ∧ _ ≤ (255 : Int); omega)) (a := 630) (i := (2 * f)) (by rw [xri_row rfl rfl]; show (-9223372036854775808 : Int) ≤ _ ∧ _ ≤ (9223372036854775807 : Int); omega)) (a := 630) (i := ((2 * f) + 1)) (by rw [xri_row rfl rfl]; show (-9223372036854775808 : Int) ≤ _ ∧ _ ≤ (9223372036854775807 : Int); omega)) (a := 631) (i := (2 * f)) (by rw [xri_row rfl rfl]; show (0 : Int) ≤ _ ∧ _ ≤ (65535 : Int); omega)) (a := 631) (i := ((2 * f) + 1)) (by rw [xri_row rfl rfl]; show (0 : Int) ≤ _ ∧ _ ≤ (65535 : Int); omega)) (a := 640) (i := f) (by rw [xri_row rfl rfl]; show (-1 : Int) ≤ _ ∧ _ ≤ (3 : Int); omega)) (RH.o (RH.o (RH.o (RH.o (RH.o (RH.o (RH.o (RH.o hH_M (by decide) (by decide) (by decide)) (by decide) (by decide) (by decide)) (by decide) (by decide) (by decide)) (by decide) (by decide) (by decide)) (by decide) (by decide) (by decide)) (by decide) (by decide) (by decide)) (by decide) (by decide) (by decide)) (by decide) (by decide) (by decide)) (Kp.o (Kp.o (Kp.o (Kp.o (Kp.o (Kp.o (Kp.o (Kp.o ht_M rfl) rfl) rfl) rfl) rfl) rfl) rfl) rfl) (by omega)  (fun M7 hI_M7 hH_M7 ht_M7 w7_0 => ?_)) (by decide))
        refine jr.iload_n rfl rfl ?_
        have e8 : M7 629 f = v2 := ((w7_0 629 f (by decide) (by decide) (by decide) (by decide) (by decide) (by decide)).trans ((ju_c _ _ (by decide)).trans ((ju_c _ _ (by decide)).trans ((ju_c _ _ (by decide)).trans ((ju_c _ _ (by decide)).trans ((ju_c _ _ (by decide)).trans (ju_same _ _ _ _)))))))
        exact jr.ireturn rfl rfl rfl (q _ _ hI_M7 hH_M7 ht_M7 (by omega) (RFx.fr (RFx.o (RFx.o (RFx.o (RFx.o (RFx.o (RF.x (RF.o (RF.o hS_M (by decide) (by decide)) (by decide) (by decide))) (by decide) (by decide)) (by decide) (by decide)) (by decide) (by decide)) (by decide) (by decide)) (by decide) (by decide)) (fun f => w7_0 629 f (by decide) (by decide) (by decide) (by decide) (by decide) (by decide)) (fun f => w7_0 638 f (by decide) (by decide) (by decide) (by decide) (by decide) (by decide))) (Or.inr (e8.trans (by have z := hF_M 598 60 (by decide) (by decide) (by decide) (by decide) (by decide) (by decide) (by decide) (by decide) (by decide) (by decide) (by decide) (by decide); omega))) (fun a i f627 f628 f629 f630 f631 f632 f633 f634 f635 f636 f637 f640 => ((w7_0 a i f632 f633 f634 f635 f636 f637).trans ((ju_c _ _ f640).trans ((ju_c _ _ f631).trans ((ju_c _ _ f631).trans ((ju_c _ _ f630).trans ((ju_c _ _ f630).trans ((ju_c _ _ f629).trans ((ju_c _ _ f628).trans ((ju_c _ _ f627).trans (hF_M a i f627 f628 f629 f630 f631 f632 f633 f634 f635 f636 f637 f640))))))))))))
      · refine jr.iconst rfl ?_
        exact jr.ireturn rfl rfl rfl (q _ _ hI_M hH_M ht_M (by omega) (fun f _ => hS_M f) (Or.inl rfl) (fun a i f627 f628 f629 f630 f631 f632 f633 f634 f635 f636 f637 f640 => (hF_M a i f627 f628 f629 f630 f631 f632 f633 f634 f635 f636 f637 f640)))
    · refine jr.aload_n rfl rfl ?_
      refine jr.getf (i := 39) (v := .ref 627) rfl rfl (by decide) rfl (by decide) rfl rfl rfl rfl ?_
      refine jr.iload_n rfl rfl ?_
      obtain ⟨v9, e9⟩ : ∃ z, M 627 k = z := ⟨_, rfl⟩
      have b9 : 0 ≤ v9 ∧ v9 ≤ 1 := by rw [← e9]; exact (by have q := hI_M 627 k (by decide); rw [xri_row rfl rfl] at q; exact q)
      refine jr.zald (i := k) (x := v9) rfl (by decide) rfl (by decide) (by omega) (by omega) e9 ?_
      refine jr.if_eq rfl rfl (by omega) (fun h15 => ?_) (fun h15 => ?_)
      · refine jr.iload_n rfl rfl ?_
        refine jr.istore_n rfl (by decide) rfl ?_
        refine jr.iinc rfl rfl (by decide) rfl ?_
        refine jr.goto rfl rfl ?_
        refine jr.pick [0, 1, 2] rfl rfl ?_
        exact ih (nM - 1) (by omega) M (k + (-1)) k hI_M hH_M hS_M ht_M (fun a i f627 f628 f629 f630 f631 f632 f633 f634 f635 f636 f637 f640 => (hF_M a i f627 f628 f629 f630 f631 f632 f633 f634 f635 f636 f637 f640)) (by omega) (by omega)  (by omega)
      · refine jr.iload_n rfl rfl ?_
        refine jr.goto rfl rfl ?_
        refine jr.istore_n rfl (by decide) rfl ?_
        refine jr.iinc rfl rfl (by decide) rfl ?_
        refine jr.goto rfl rfl ?_
        refine jr.pick [0, 1, 2] rfl rfl ?_
        exact ih (nM - 1) (by omega) M (k + (-1)) f hI_M hH_M hS_M ht_M (fun a i f627 f628 f629 f630 f631 f632 f633 f634 f635 f636 f637 f640 => (hF_M a i f627 f628 f629 f630 f631 f632 f633 f634 f635 f636 f637 f640)) (by omega) (by omega)  (by omega)
theorem r_beginFlow {A : Nat → Option (Nat × (Nat → Int32))} {Q : Option Value → jm → Prop} {T : jm} {M : jm} (hI_M : RI M) (hH_M : RH M) (hS_M : RF M) (ht_M : Kp T M) (q : ∀ (r : Int) (M' : jm), RI M' → RH M' → Kp T M' → (-1) ≤ r ∧ r ≤ 23 → RFx M' r → (r = -1 ∨ M' 629 r = M 598 60) → (∀ (a : Nat) (i : Int), a ≠ 627 → a ≠ 628 → a ≠ 629 → a ≠ 630 → a ≠ 631 → a ≠ 632 → a ≠ 633 → a ≠ 634 → a ≠ 635 → a ≠ 636 → a ≠ 637 → a ≠ 640 → M' a i = M a i) → Q (some (.int (Int32.ofInt r))) M') : jc A 2 310 [.ref (598)] M Q := by
  refine jc_of (m := xm_310) rfl (Nat.le_of_ble_eq_true rfl) rfl ?_
  refine jr.iconst rfl ?_
  refine jr.istore_n rfl (by decide) rfl ?_
  refine jr.bipush rfl (by decide) ?_
  refine jr.istore_n rfl (by decide) rfl ?_
  refine jr.pick [0, 1, 2] rfl rfl ?_
  exact r_beginFlow_L5 q 24 M 23 (-1) hI_M hH_M hS_M ht_M (fun a i f627 f628 f629 f630 f631 f632 f633 f634 f635 f636 f637 f640 => rfl) (by omega) (by omega)  (by omega)
theorem r_track {A : Nat → Option (Nat × (Nat → Int32))} {Q : Option Value → jm → Prop} {T : jm} {M : jm} (hI_M : RI M) (hH_M : RH M) (hS_M : RF M) (ht_M : Kp T M) {x : Int} (h_x : (-2147483648) ≤ x ∧ x ≤ 2147483647) (q : ∀ (r : Int) (M' : jm), RI M' → RH M' → RF M' → Kp T M' → (-8) ≤ r ∧ r ≤ 23 → Q (some (.int (Int32.ofInt r))) M') : jc A 8 314 [.ref (598), .int (Int32.ofInt (x))] M Q := by
  refine jc_of (m := xm_314) rfl (Nat.le_of_ble_eq_true rfl) rfl ?_
  refine jr.aload_n rfl rfl ?_
  refine jr.iload_n rfl rfl ?_
  refine jr_v rfl rfl (Or.inl rfl) rfl rfl (by decide) rfl ⟨rfl, Nat.le_of_ble_eq_true rfl, Nat.le_of_ble_eq_true rfl⟩ rfl (jc.deep (c_isThere hI_M (by omega) (fun l2 u2 t2 => ?_) (fun n2 => ?_)) (by decide))
  · refine jr.if_ne rfl rfl (by omega) (fun _ => ?_) (fun h => absurd (by decide) h)
    refine jr.aload_n rfl rfl ?_
    refine jr.iload_n rfl rfl ?_
    obtain ⟨v2, e2⟩ : ∃ z, M 600 x = z := ⟨_, rfl⟩
    have b2 : (-1) ≤ v2 ∧ v2 ≤ 400 := by rw [← e2]; exact (by have q := hI_M 600 x (by decide); rw [xri_row rfl rfl] at q; exact q)
    refine jr_v rfl rfl (Or.inl rfl) rfl rfl (by decide) rfl ⟨rfl, Nat.le_of_ble_eq_true rfl, Nat.le_of_ble_eq_true rfl⟩ rfl (jc.deep (r_hasEnds hI_M hH_M hS_M ht_M (by omega) (by rw [e2]; omega) (fun r1 M1 hI_M1 hH_M1 hS_M1 ht_M1 z1 w1_0 w1_1 w1_2 => ?_)) (by decide))
    refine jr.if_ne rfl rfl (by omega) (fun h16 => ?_) (fun h16 => ?_)
    · refine jr.aload_n rfl rfl ?_
      refine jr.iload_n rfl rfl ?_
      refine jr_v rfl rfl (Or.inl rfl) rfl rfl (by decide) rfl ⟨rfl, Nat.le_of_ble_eq_true rfl, Nat.le_of_ble_eq_true rfl⟩ rfl (jc.deep (r_isRelated hI_M1 hH_M1 hS_M1 ht_M1 (by omega) (w1_0.resolve_left (by omega)) (fun r3 M3 hI_M3 hH_M3 hS_M3 ht_M3 z3 w3_0 w3_1 w3_2 => ?_)) (by decide))
      have q3 := w3_0
      obtain ⟨re1, re2, re3, re4, re5, tt, rt0, rt1, rt2⟩ := q3
      obtain ⟨ea, hea⟩ : ∃ z, M3 598 65 = z := ⟨_, rfl⟩
      rw [hea] at re1 re2 re3 re4
      have rc := RH.car hH_M3 ea
      have b65 : M3 598 6 ≤ 12 := (hI_M3 598 6 (by decide)).2
      refine jr.if_eq rfl rfl (by omega) (fun h27 => ?_) (fun h27 => ?_)
      · refine jr.aload_n rfl rfl ?_
        refine jr_v rfl rfl (Or.inl rfl) rfl rfl (by decide) rfl ⟨rfl, Nat.le_of_ble_eq_true rfl, Nat.le_of_ble_eq_true rfl⟩ rfl (jc.deep (r_flowByEnds hI_M3 hH_M3 hS_M3 ht_M3   (fun r4 M4 hI_M4 hH_M4 hS_M4 ht_M4 z4 w4_0 w4_1 w4_2 => ?_)) (by decide))
        have rf := hS_M4 r4
        have g60 := w4_2 60 (by decide)
        have g629 := (w4_1 629 r4 (by decide)).trans ((w3_1 629 r4 (by decide)).trans (w1_1 629 r4 (by decide) (by decide) (by decide) (by decide)))
        have g638 := (w4_1 638 r4 (by decide)).trans ((w3_1 638 r4 (by decide)).trans (w1_1 638 r4 (by decide) (by decide) (by decide) (by decide)))
        refine jr.istore_n rfl (by decide) rfl ?_
        refine jr.aload_n rfl rfl ?_
        obtain ⟨v5, e5⟩ : ∃ z, M3 598 60 = z := ⟨_, rfl⟩
        have b5 : 0 ≤ v5 ∧ v5 ≤ 255 := by rw [← e5]; exact hI_M3 598 60 (by decide)
        have e6 : M4 598 60 = v5 := ((w4_2 60 (by decide)).trans e5)
        refine jr.getf (i := 60) (x := v5) (v := .int (Int32.ofInt (v5))) rfl rfl (by decide) rfl (by decide) rfl rfl e6 rfl ?_
        refine jr.bipush rfl (by decide) ?_
        refine jr.icmp_ne rfl rfl (by omega) (by omega) (fun h58 => ?_) (fun h58 => ?_)
        · refine jr.iconst rfl ?_
          refine jr.istore_n rfl (by decide) rfl ?_
          refine jr.iconst rfl ?_
          refine jr.istore rfl (by decide) rfl ?_
          refine jr.iload_n rfl rfl ?_
          refine jr.iconst rfl ?_
          refine jr.icmp_ne rfl rfl (by omega) (by omega) (fun h91 => ?_) (fun h91 => ?_)
          · refine jr.aload_n rfl rfl ?_
            refine jr.getf (i := 60) (x := v5) (v := .int (Int32.ofInt (v5))) rfl rfl (by decide) rfl (by decide) rfl rfl e6 rfl ?_
            refine jr.bipush rfl (by decide) ?_
            refine jr.icmp_ne rfl rfl (by omega) (by omega) (fun h201 => ?_) (fun h201 => ?_)
            · refine jr.aload_n rfl rfl ?_
              refine jr.getf (i := 60) (x := v5) (v := .int (Int32.ofInt (v5))) rfl rfl (by decide) rfl (by decide) rfl rfl e6 rfl ?_
              refine jr.bipush rfl (by decide) ?_
              refine jr.icmp_ne rfl rfl (by omega) (by omega) (fun h278 => ?_) (fun h278 => ?_)
              · refine jr.aload_n rfl rfl ?_
                refine jr.getf (i := 50) (v := .ref 638) rfl rfl (by decide) rfl (by decide) rfl rfl rfl rfl ?_
                refine jr.iload_n rfl rfl ?_
                refine jr.iload rfl rfl ?_
                refine jr.iast (i := r4) (x := 0) rfl (by decide) rfl (by decide) (by omega) (by omega) ?_
                refine jr.aload_n rfl rfl ?_
                refine jr.getf (i := 51) (v := .ref 639) rfl rfl (by decide) rfl (by decide) rfl rfl rfl rfl ?_
                refine jr.iload_n rfl rfl ?_
                refine jr.aload_n rfl rfl ?_
                obtain ⟨v7, e7⟩ : ∃ z, M 598 2 = z := ⟨_, rfl⟩
                have b7 : 0 ≤ v7 ∧ v7 ≤ 2000000 := by rw [← e7]; exact hI_M 598 2 (by decide)
                have e8 : M1 598 2 = v7 := ((w1_2 2 (by decide) (by decide) (by decide) (by decide) (by decide) (by decide) (by decide) (by decide) (by decide) (by decide) (by decide)).trans e7)
                have e9 : M3 598 2 = v7 := ((w3_2 2 (by decide) (by decide) (by decide) (by decide) (by decide) (by decide) (by decide)).trans e8)
                have e10 : M4 598 2 = v7 := ((w4_2 2 (by decide)).trans e9)
                refine jr.getf (i := 2) (x := v7) (v := .int (Int32.ofInt (v7))) rfl rfl (by decide) rfl (by decide) rfl rfl ((ju_c _ _ (by decide)).trans e10) rfl ?_
                refine jr.aload_n rfl rfl ?_
                refine jr.getf (i := 41) (v := .ref 629) rfl rfl (by decide) rfl (by decide) rfl rfl rfl rfl ?_
                refine jr.iload_n rfl rfl ?_
                obtain ⟨v11, e11⟩ : ∃ z, M 629 r4 = z := ⟨_, rfl⟩
                have b11 : 0 ≤ v11 ∧ v11 ≤ 255 := by rw [← e11]; exact (by have q := hI_M 629 r4 (by decide); rw [xri_row rfl rfl] at q; exact q)
                have e12 : M1 629 r4 = v11 := ((w1_1 629 r4 (by decide) (by decide) (by decide) (by decide)).trans e11)
                have e13 : M3 629 r4 = v11 := ((w3_1 629 r4 (by decide)).trans e12)
                have e14 : M4 629 r4 = v11 := ((w4_1 629 r4 (by decide)).trans e13)
                refine jr.iald (i := r4) (x := v11) rfl (by decide) rfl (by decide) (by omega) (by omega) ((ju_c _ _ (by decide)).trans e14) ?_
                refine jr.iload rfl rfl ?_
                refine jr_s rfl rfl (Or.inl rfl) ⟨Nat.le_of_ble_eq_true rfl, Nat.le_of_ble_eq_true rfl⟩ rfl rfl (jc.deep (r_lives (RI.u hI_M4 (a := 638) (i := r4) (by rw [xri_row rfl rfl]; show (0 : Int) ≤ _ ∧ _ ≤ (15 : Int); omega)) (RH.o hH_M4 (by decide) (by decide) (by decide)) (RF.w hS_M4 (fun q => by rw [e14] at q; omega)) (Kp.o ht_M4 rfl) (by omega) (by omega)  (fun r15 z15  => ?_)) (by decide))
                refine jr.iadd rfl ?_
                refine jr.iast (i := r4) (x := (v7 + r15)) rfl (by decide) rfl (by decide) (by omega) (by omega) ?_
                refine jr.aload_n rfl rfl ?_
                refine jr.iload_n rfl rfl ?_
                refine jr.iload_n rfl rfl ?_
                have e17 : M4 598 65 = ea := ((w4_2 65 (by decide)).trans hea)
                obtain ⟨v18, e18⟩ : ∃ z, M1 604 ea = z := ⟨_, rfl⟩
                have b18 : 0 ≤ v18 ∧ v18 ≤ 400 := by rw [← e18]; exact (by have q := hI_M1 604 ea (by decide); rw [xri_row rfl rfl] at q; exact q)
                have e19 : M3 604 ea = v18 := ((w3_1 604 ea (by decide)).trans e18)
                have e20 : M4 604 ea = v18 := ((w4_1 604 ea (by decide)).trans e19)
                obtain ⟨v21, e21⟩ : ∃ z, M4 598 66 = z := ⟨_, rfl⟩
                have b21 : (-1) ≤ v21 ∧ v21 ≤ 1 := by rw [← e21]; exact hI_M4 598 66 (by decide)
                refine jr_v rfl rfl (Or.inl rfl) rfl rfl (by decide) rfl ⟨rfl, Nat.le_of_ble_eq_true rfl, Nat.le_of_ble_eq_true rfl⟩ rfl (jc.deep (r_counts (RI.u (RI.u hI_M4 (a := 638) (i := r4) (by rw [xri_row rfl rfl]; show (0 : Int) ≤ _ ∧ _ ≤ (15 : Int); omega)) (a := 639) (i := r4) (by rw [xri_row rfl rfl]; show (-2147483648 : Int) ≤ _ ∧ _ ≤ (2147483647 : Int); omega)) (RH.o (RH.o hH_M4 (by decide) (by decide) (by decide)) (by decide) (by decide) (by decide)) (RF.o (RF.w hS_M4 (fun q => by rw [e14] at q; omega)) (by decide) (by decide)) (Kp.o (Kp.o ht_M4 rfl) rfl) (by omega) (by omega) (by rw [((ju_c _ _ (by decide)).trans ((ju_c _ _ (by decide)).trans e17))]; omega) (by rw [((ju_c _ _ (by decide)).trans ((ju_c _ _ (by decide)).trans e14)), ((ju_c _ _ (by decide)).trans ((ju_c _ _ (by decide)).trans e17)), ((ju_c _ _ (by decide)).trans ((ju_c _ _ (by decide)).trans e20))]; intro q; omega) (by rw [((ju_c _ _ (by decide)).trans ((ju_c _ _ (by decide)).trans e21))]; omega) (fun M16 hI_M16 hH_M16 hS_M16 ht_M16 w16_0 => ?_)) (by decide))
                refine jr.iload_n rfl rfl ?_
                exact jr.ireturn rfl rfl rfl (q _ _ hI_M16 hH_M16 hS_M16 ht_M16 (by omega) )
              · refine jr.aload_n rfl rfl ?_
                obtain ⟨v22, e22⟩ : ∃ z, M4 598 66 = z := ⟨_, rfl⟩
                have b22 : (-1) ≤ v22 ∧ v22 ≤ 1 := by rw [← e22]; exact hI_M4 598 66 (by decide)
                refine jr.getf (i := 66) (x := v22) (v := .int (Int32.ofInt (v22))) rfl rfl (by decide) rfl (by decide) rfl rfl e22 rfl ?_
                refine jr.iconst rfl ?_
                refine jr.icmp_eq rfl rfl (by omega) (by omega) (fun h286 => ?_) (fun h286 => ?_)
                · refine jr.iconst rfl ?_
                  refine jr.goto rfl rfl ?_
                  refine jr.istore rfl (by decide) rfl ?_
                  refine jr.aload_n rfl rfl ?_
                  refine jr.getf (i := 50) (v := .ref 638) rfl rfl (by decide) rfl (by decide) rfl rfl rfl rfl ?_
                  refine jr.iload_n rfl rfl ?_
                  refine jr.iload rfl rfl ?_
                  refine jr.iast (i := r4) (x := 1) rfl (by decide) rfl (by decide) (by omega) (by omega) ?_
                  refine jr.aload_n rfl rfl ?_
                  refine jr.getf (i := 51) (v := .ref 639) rfl rfl (by decide) rfl (by decide) rfl rfl rfl rfl ?_
                  refine jr.iload_n rfl rfl ?_
                  refine jr.aload_n rfl rfl ?_
                  obtain ⟨v23, e23⟩ : ∃ z, M 598 2 = z := ⟨_, rfl⟩
                  have b23 : 0 ≤ v23 ∧ v23 ≤ 2000000 := by rw [← e23]; exact hI_M 598 2 (by decide)
                  have e24 : M1 598 2 = v23 := ((w1_2 2 (by decide) (by decide) (by decide) (by decide) (by decide) (by decide) (by decide) (by decide) (by decide) (by decide) (by decide)).trans e23)
                  have e25 : M3 598 2 = v23 := ((w3_2 2 (by decide) (by decide) (by decide) (by decide) (by decide) (by decide) (by decide)).trans e24)
                  have e26 : M4 598 2 = v23 := ((w4_2 2 (by decide)).trans e25)
                  refine jr.getf (i := 2) (x := v23) (v := .int (Int32.ofInt (v23))) rfl rfl (by decide) rfl (by decide) rfl rfl ((ju_c _ _ (by decide)).trans e26) rfl ?_
                  refine jr.aload_n rfl rfl ?_
                  refine jr.getf (i := 41) (v := .ref 629) rfl rfl (by decide) rfl (by decide) rfl rfl rfl rfl ?_
                  refine jr.iload_n rfl rfl ?_
                  obtain ⟨v27, e27⟩ : ∃ z, M 629 r4 = z := ⟨_, rfl⟩
                  have b27 : 0 ≤ v27 ∧ v27 ≤ 255 := by rw [← e27]; exact (by have q := hI_M 629 r4 (by decide); rw [xri_row rfl rfl] at q; exact q)
                  have e28 : M1 629 r4 = v27 := ((w1_1 629 r4 (by decide) (by decide) (by decide) (by decide)).trans e27)
                  have e29 : M3 629 r4 = v27 := ((w3_1 629 r4 (by decide)).trans e28)
                  have e30 : M4 629 r4 = v27 := ((w4_1 629 r4 (by decide)).trans e29)
                  refine jr.iald (i := r4) (x := v27) rfl (by decide) rfl (by decide) (by omega) (by omega) ((ju_c _ _ (by decide)).trans e30) ?_
                  refine jr.iload rfl rfl ?_
                  refine jr_s rfl rfl (Or.inl rfl) ⟨Nat.le_of_ble_eq_true rfl, Nat.le_of_ble_eq_true rfl⟩ rfl rfl (jc.deep (r_lives (RI.u hI_M4 (a := 638) (i := r4) (by rw [xri_row rfl rfl]; show (0 : Int) ≤ _ ∧ _ ≤ (15 : Int); omega)) (RH.o hH_M4 (by decide) (by decide) (by decide)) (RF.w hS_M4 (fun q => by rw [e30] at q; omega)) (Kp.o ht_M4 rfl) (by omega) (by omega)  (fun r31 z31  => ?_)) (by decide))
                  refine jr.iadd rfl ?_
                  refine jr.iast (i := r4) (x := (v23 + r31)) rfl (by decide) rfl (by decide) (by omega) (by omega) ?_
                  refine jr.aload_n rfl rfl ?_
                  refine jr.iload_n rfl rfl ?_
                  refine jr.iload_n rfl rfl ?_
                  have e33 : M4 598 65 = ea := ((w4_2 65 (by decide)).trans hea)
                  obtain ⟨v34, e34⟩ : ∃ z, M1 604 ea = z := ⟨_, rfl⟩
                  have b34 : 0 ≤ v34 ∧ v34 ≤ 400 := by rw [← e34]; exact (by have q := hI_M1 604 ea (by decide); rw [xri_row rfl rfl] at q; exact q)
                  have e35 : M3 604 ea = v34 := ((w3_1 604 ea (by decide)).trans e34)
                  have e36 : M4 604 ea = v34 := ((w4_1 604 ea (by decide)).trans e35)
                  refine jr_v rfl rfl (Or.inl rfl) rfl rfl (by decide) rfl ⟨rfl, Nat.le_of_ble_eq_true rfl, Nat.le_of_ble_eq_true rfl⟩ rfl (jc.deep (r_counts (RI.u (RI.u hI_M4 (a := 638) (i := r4) (by rw [xri_row rfl rfl]; show (0 : Int) ≤ _ ∧ _ ≤ (15 : Int); omega)) (a := 639) (i := r4) (by rw [xri_row rfl rfl]; show (-2147483648 : Int) ≤ _ ∧ _ ≤ (2147483647 : Int); omega)) (RH.o (RH.o hH_M4 (by decide) (by decide) (by decide)) (by decide) (by decide) (by decide)) (RF.o (RF.w hS_M4 (fun q => by rw [e30] at q; omega)) (by decide) (by decide)) (Kp.o (Kp.o ht_M4 rfl) rfl) (by omega) (by omega) (by rw [((ju_c _ _ (by decide)).trans ((ju_c _ _ (by decide)).trans e33))]; omega) (by rw [((ju_c _ _ (by decide)).trans ((ju_c _ _ (by decide)).trans e30)), ((ju_c _ _ (by decide)).trans ((ju_c _ _ (by decide)).trans e33)), ((ju_c _ _ (by decide)).trans ((ju_c _ _ (by decide)).trans e36))]; intro q; omega) (by rw [((ju_c _ _ (by decide)).trans ((ju_c _ _ (by decide)).trans e22))]; omega) (fun M32 hI_M32 hH_M32 hS_M32 ht_M32 w32_0 => ?_)) (by decide))
                  refine jr.iload_n rfl rfl ?_
                  exact jr.ireturn rfl rfl rfl (q _ _ hI_M32 hH_M32 hS_M32 ht_M32 (by omega) )
                · refine jr.aload_n rfl rfl ?_
                  refine jr.getf (i := 50) (v := .ref 638) rfl rfl (by decide) rfl (by decide) rfl rfl rfl rfl ?_
                  refine jr.iload_n rfl rfl ?_
                  obtain ⟨v37, e37⟩ : ∃ z, M 638 r4 = z := ⟨_, rfl⟩
                  have b37 : 0 ≤ v37 ∧ v37 ≤ 15 := by rw [← e37]; exact (by have q := hI_M 638 r4 (by decide); rw [xri_row rfl rfl] at q; exact q)
                  have e38 : M1 638 r4 = v37 := ((w1_1 638 r4 (by decide) (by decide) (by decide) (by decide)).trans e37)
                  have e39 : M3 638 r4 = v37 := ((w3_1 638 r4 (by decide)).trans e38)
                  have e40 : M4 638 r4 = v37 := ((w4_1 638 r4 (by decide)).trans e39)
                  refine jr.iald (i := r4) (x := v37) rfl (by decide) rfl (by decide) (by omega) (by omega) e40 ?_
                  refine jr.iconst rfl ?_
                  refine jr.icmp_ne rfl rfl (by omega) (by omega) (fun h296 => ?_) (fun h296 => ?_)
                  · refine jr.iconst rfl ?_
                    refine jr.istore rfl (by decide) rfl ?_
                    refine jr.aload_n rfl rfl ?_
                    refine jr.getf (i := 50) (v := .ref 638) rfl rfl (by decide) rfl (by decide) rfl rfl rfl rfl ?_
                    refine jr.iload_n rfl rfl ?_
                    refine jr.iload rfl rfl ?_
                    refine jr.iast (i := r4) (x := 0) rfl (by decide) rfl (by decide) (by omega) (by omega) ?_
                    refine jr.aload_n rfl rfl ?_
                    refine jr.getf (i := 51) (v := .ref 639) rfl rfl (by decide) rfl (by decide) rfl rfl rfl rfl ?_
                    refine jr.iload_n rfl rfl ?_
                    refine jr.aload_n rfl rfl ?_
                    obtain ⟨v41, e41⟩ : ∃ z, M 598 2 = z := ⟨_, rfl⟩
                    have b41 : 0 ≤ v41 ∧ v41 ≤ 2000000 := by rw [← e41]; exact hI_M 598 2 (by decide)
                    have e42 : M1 598 2 = v41 := ((w1_2 2 (by decide) (by decide) (by decide) (by decide) (by decide) (by decide) (by decide) (by decide) (by decide) (by decide) (by decide)).trans e41)
                    have e43 : M3 598 2 = v41 := ((w3_2 2 (by decide) (by decide) (by decide) (by decide) (by decide) (by decide) (by decide)).trans e42)
                    have e44 : M4 598 2 = v41 := ((w4_2 2 (by decide)).trans e43)
                    refine jr.getf (i := 2) (x := v41) (v := .int (Int32.ofInt (v41))) rfl rfl (by decide) rfl (by decide) rfl rfl ((ju_c _ _ (by decide)).trans e44) rfl ?_
                    refine jr.aload_n rfl rfl ?_
                    refine jr.getf (i := 41) (v := .ref 629) rfl rfl (by decide) rfl (by decide) rfl rfl rfl rfl ?_
                    refine jr.iload_n rfl rfl ?_
                    obtain ⟨v45, e45⟩ : ∃ z, M 629 r4 = z := ⟨_, rfl⟩
                    have b45 : 0 ≤ v45 ∧ v45 ≤ 255 := by rw [← e45]; exact (by have q := hI_M 629 r4 (by decide); rw [xri_row rfl rfl] at q; exact q)
                    have e46 : M1 629 r4 = v45 := ((w1_1 629 r4 (by decide) (by decide) (by decide) (by decide)).trans e45)
                    have e47 : M3 629 r4 = v45 := ((w3_1 629 r4 (by decide)).trans e46)
                    have e48 : M4 629 r4 = v45 := ((w4_1 629 r4 (by decide)).trans e47)
                    refine jr.iald (i := r4) (x := v45) rfl (by decide) rfl (by decide) (by omega) (by omega) ((ju_c _ _ (by decide)).trans e48) ?_
                    refine jr.iload rfl rfl ?_
                    refine jr_s rfl rfl (Or.inl rfl) ⟨Nat.le_of_ble_eq_true rfl, Nat.le_of_ble_eq_true rfl⟩ rfl rfl (jc.deep (r_lives (RI.u hI_M4 (a := 638) (i := r4) (by rw [xri_row rfl rfl]; show (0 : Int) ≤ _ ∧ _ ≤ (15 : Int); omega)) (RH.o hH_M4 (by decide) (by decide) (by decide)) (RF.w hS_M4 (fun q => by rw [e48] at q; omega)) (Kp.o ht_M4 rfl) (by omega) (by omega)  (fun r49 z49  => ?_)) (by decide))
                    refine jr.iadd rfl ?_
                    refine jr.iast (i := r4) (x := (v41 + r49)) rfl (by decide) rfl (by decide) (by omega) (by omega) ?_
                    refine jr.aload_n rfl rfl ?_
                    refine jr.iload_n rfl rfl ?_
                    refine jr.iload_n rfl rfl ?_
                    have e51 : M4 598 65 = ea := ((w4_2 65 (by decide)).trans hea)
                    obtain ⟨v52, e52⟩ : ∃ z, M1 604 ea = z := ⟨_, rfl⟩
                    have b52 : 0 ≤ v52 ∧ v52 ≤ 400 := by rw [← e52]; exact (by have q := hI_M1 604 ea (by decide); rw [xri_row rfl rfl] at q; exact q)
                    have e53 : M3 604 ea = v52 := ((w3_1 604 ea (by decide)).trans e52)
                    have e54 : M4 604 ea = v52 := ((w4_1 604 ea (by decide)).trans e53)
                    refine jr_v rfl rfl (Or.inl rfl) rfl rfl (by decide) rfl ⟨rfl, Nat.le_of_ble_eq_true rfl, Nat.le_of_ble_eq_true rfl⟩ rfl (jc.deep (r_counts (RI.u (RI.u hI_M4 (a := 638) (i := r4) (by rw [xri_row rfl rfl]; show (0 : Int) ≤ _ ∧ _ ≤ (15 : Int); omega)) (a := 639) (i := r4) (by rw [xri_row rfl rfl]; show (-2147483648 : Int) ≤ _ ∧ _ ≤ (2147483647 : Int); omega)) (RH.o (RH.o hH_M4 (by decide) (by decide) (by decide)) (by decide) (by decide) (by decide)) (RF.o (RF.w hS_M4 (fun q => by rw [e48] at q; omega)) (by decide) (by decide)) (Kp.o (Kp.o ht_M4 rfl) rfl) (by omega) (by omega) (by rw [((ju_c _ _ (by decide)).trans ((ju_c _ _ (by decide)).trans e51))]; omega) (by rw [((ju_c _ _ (by decide)).trans ((ju_c _ _ (by decide)).trans e48)), ((ju_c _ _ (by decide)).trans ((ju_c _ _ (by decide)).trans e51)), ((ju_c _ _ (by decide)).trans ((ju_c _ _ (by decide)).trans e54))]; intro q; omega) (by rw [((ju_c _ _ (by decide)).trans ((ju_c _ _ (by decide)).trans e22))]; omega) (fun M50 hI_M50 hH_M50 hS_M50 ht_M50 w50_0 => ?_)) (by decide))
                    refine jr.iload_n rfl rfl ?_
                    exact jr.ireturn rfl rfl rfl (q _ _ hI_M50 hH_M50 hS_M50 ht_M50 (by omega) )
                  · refine jr.iconst rfl ?_
                    refine jr.goto rfl rfl ?_
                    refine jr.istore rfl (by decide) rfl ?_
                    refine jr.aload_n rfl rfl ?_
                    refine jr.getf (i := 50) (v := .ref 638) rfl rfl (by decide) rfl (by decide) rfl rfl rfl rfl ?_
                    refine jr.iload_n rfl rfl ?_
                    refine jr.iload rfl rfl ?_
                    refine jr.iast (i := r4) (x := 1) rfl (by decide) rfl (by decide) (by omega) (by omega) ?_
                    refine jr.aload_n rfl rfl ?_
                    refine jr.getf (i := 51) (v := .ref 639) rfl rfl (by decide) rfl (by decide) rfl rfl rfl rfl ?_
                    refine jr.iload_n rfl rfl ?_
                    refine jr.aload_n rfl rfl ?_
                    obtain ⟨v55, e55⟩ : ∃ z, M 598 2 = z := ⟨_, rfl⟩
                    have b55 : 0 ≤ v55 ∧ v55 ≤ 2000000 := by rw [← e55]; exact hI_M 598 2 (by decide)
                    have e56 : M1 598 2 = v55 := ((w1_2 2 (by decide) (by decide) (by decide) (by decide) (by decide) (by decide) (by decide) (by decide) (by decide) (by decide) (by decide)).trans e55)
                    have e57 : M3 598 2 = v55 := ((w3_2 2 (by decide) (by decide) (by decide) (by decide) (by decide) (by decide) (by decide)).trans e56)
                    have e58 : M4 598 2 = v55 := ((w4_2 2 (by decide)).trans e57)
                    refine jr.getf (i := 2) (x := v55) (v := .int (Int32.ofInt (v55))) rfl rfl (by decide) rfl (by decide) rfl rfl ((ju_c _ _ (by decide)).trans e58) rfl ?_
                    refine jr.aload_n rfl rfl ?_
                    refine jr.getf (i := 41) (v := .ref 629) rfl rfl (by decide) rfl (by decide) rfl rfl rfl rfl ?_
                    refine jr.iload_n rfl rfl ?_
                    obtain ⟨v59, e59⟩ : ∃ z, M 629 r4 = z := ⟨_, rfl⟩
                    have b59 : 0 ≤ v59 ∧ v59 ≤ 255 := by rw [← e59]; exact (by have q := hI_M 629 r4 (by decide); rw [xri_row rfl rfl] at q; exact q)
                    have e60 : M1 629 r4 = v59 := ((w1_1 629 r4 (by decide) (by decide) (by decide) (by decide)).trans e59)
                    have e61 : M3 629 r4 = v59 := ((w3_1 629 r4 (by decide)).trans e60)
                    have e62 : M4 629 r4 = v59 := ((w4_1 629 r4 (by decide)).trans e61)
                    refine jr.iald (i := r4) (x := v59) rfl (by decide) rfl (by decide) (by omega) (by omega) ((ju_c _ _ (by decide)).trans e62) ?_
                    refine jr.iload rfl rfl ?_
                    refine jr_s rfl rfl (Or.inl rfl) ⟨Nat.le_of_ble_eq_true rfl, Nat.le_of_ble_eq_true rfl⟩ rfl rfl (jc.deep (r_lives (RI.u hI_M4 (a := 638) (i := r4) (by rw [xri_row rfl rfl]; show (0 : Int) ≤ _ ∧ _ ≤ (15 : Int); omega)) (RH.o hH_M4 (by decide) (by decide) (by decide)) (RF.w hS_M4 (fun q => by rw [e62] at q; omega)) (Kp.o ht_M4 rfl) (by omega) (by omega)  (fun r63 z63  => ?_)) (by decide))
                    refine jr.iadd rfl ?_
                    refine jr.iast (i := r4) (x := (v55 + r63)) rfl (by decide) rfl (by decide) (by omega) (by omega) ?_
                    refine jr.aload_n rfl rfl ?_
                    refine jr.iload_n rfl rfl ?_
                    refine jr.iload_n rfl rfl ?_
                    have e65 : M4 598 65 = ea := ((w4_2 65 (by decide)).trans hea)
                    obtain ⟨v66, e66⟩ : ∃ z, M1 604 ea = z := ⟨_, rfl⟩
                    have b66 : 0 ≤ v66 ∧ v66 ≤ 400 := by rw [← e66]; exact (by have q := hI_M1 604 ea (by decide); rw [xri_row rfl rfl] at q; exact q)
                    have e67 : M3 604 ea = v66 := ((w3_1 604 ea (by decide)).trans e66)
                    have e68 : M4 604 ea = v66 := ((w4_1 604 ea (by decide)).trans e67)
                    refine jr_v rfl rfl (Or.inl rfl) rfl rfl (by decide) rfl ⟨rfl, Nat.le_of_ble_eq_true rfl, Nat.le_of_ble_eq_true rfl⟩ rfl (jc.deep (r_counts (RI.u (RI.u hI_M4 (a := 638) (i := r4) (by rw [xri_row rfl rfl]; show (0 : Int) ≤ _ ∧ _ ≤ (15 : Int); omega)) (a := 639) (i := r4) (by rw [xri_row rfl rfl]; show (-2147483648 : Int) ≤ _ ∧ _ ≤ (2147483647 : Int); omega)) (RH.o (RH.o hH_M4 (by decide) (by decide) (by decide)) (by decide) (by decide) (by decide)) (RF.o (RF.w hS_M4 (fun q => by rw [e62] at q; omega)) (by decide) (by decide)) (Kp.o (Kp.o ht_M4 rfl) rfl) (by omega) (by omega) (by rw [((ju_c _ _ (by decide)).trans ((ju_c _ _ (by decide)).trans e65))]; omega) (by rw [((ju_c _ _ (by decide)).trans ((ju_c _ _ (by decide)).trans e62)), ((ju_c _ _ (by decide)).trans ((ju_c _ _ (by decide)).trans e65)), ((ju_c _ _ (by decide)).trans ((ju_c _ _ (by decide)).trans e68))]; intro q; omega) (by rw [((ju_c _ _ (by decide)).trans ((ju_c _ _ (by decide)).trans e22))]; omega) (fun M64 hI_M64 hH_M64 hS_M64 ht_M64 w64_0 => ?_)) (by decide))
                    refine jr.iload_n rfl rfl ?_
                    exact jr.ireturn rfl rfl rfl (q _ _ hI_M64 hH_M64 hS_M64 ht_M64 (by omega) )
            · refine jr.aload_n rfl rfl ?_
              refine jr.aload_n rfl rfl ?_
              refine jr.getf (i := 50) (v := .ref 638) rfl rfl (by decide) rfl (by decide) rfl rfl rfl rfl ?_
              refine jr.iload_n rfl rfl ?_
              obtain ⟨v69, e69⟩ : ∃ z, M 638 r4 = z := ⟨_, rfl⟩
              have b69 : 0 ≤ v69 ∧ v69 ≤ 15 := by rw [← e69]; exact (by have q := hI_M 638 r4 (by decide); rw [xri_row rfl rfl] at q; exact q)
              have e70 : M1 638 r4 = v69 := ((w1_1 638 r4 (by decide) (by decide) (by decide) (by decide)).trans e69)
              have e71 : M3 638 r4 = v69 := ((w3_1 638 r4 (by decide)).trans e70)
              have e72 : M4 638 r4 = v69 := ((w4_1 638 r4 (by decide)).trans e71)
              refine jr.iald (i := r4) (x := v69) rfl (by decide) rfl (by decide) (by omega) (by omega) e72 ?_
              refine jr.aload_n rfl rfl ?_
              obtain ⟨v73, e73⟩ : ∃ z, M4 598 66 = z := ⟨_, rfl⟩
              have b73 : (-1) ≤ v73 ∧ v73 ≤ 1 := by rw [← e73]; exact hI_M4 598 66 (by decide)
              refine jr.getf (i := 66) (x := v73) (v := .int (Int32.ofInt (v73))) rfl rfl (by decide) rfl (by decide) rfl rfl e73 rfl ?_
              refine jr.iload_n rfl rfl ?_
              refine jr_v rfl rfl (Or.inl rfl) rfl rfl (by decide) rfl ⟨rfl, Nat.le_of_ble_eq_true rfl, Nat.le_of_ble_eq_true rfl⟩ rfl (jc.deep (r_after hI_M4 hH_M4 hS_M4 ht_M4 (by omega) (by omega) (by omega)  (fun r74 z74  => ?_)) (by decide))
              refine jr.istore rfl (by decide) rfl ?_
              refine jr.iload rfl rfl ?_
              refine jr.if_ne rfl rfl (by omega) (fun h223 => ?_) (fun h223 => ?_)
              · refine jr.aload_n rfl rfl ?_
                refine jr.iload_n rfl rfl ?_
                refine jr.iload_n rfl rfl ?_
                refine jr.iload_n rfl rfl ?_
                have e76 : M4 598 65 = ea := ((w4_2 65 (by decide)).trans hea)
                obtain ⟨v77, e77⟩ : ∃ z, M1 604 ea = z := ⟨_, rfl⟩
                have b77 : 0 ≤ v77 ∧ v77 ≤ 400 := by rw [← e77]; exact (by have q := hI_M1 604 ea (by decide); rw [xri_row rfl rfl] at q; exact q)
                have e78 : M3 604 ea = v77 := ((w3_1 604 ea (by decide)).trans e77)
                have e79 : M4 604 ea = v77 := ((w4_1 604 ea (by decide)).trans e78)
                refine jr_v rfl rfl (Or.inl rfl) rfl rfl (by decide) rfl ⟨rfl, Nat.le_of_ble_eq_true rfl, Nat.le_of_ble_eq_true rfl⟩ rfl (jc.deep (r_isOut hI_M4 hH_M4 hS_M4 ht_M4 (by omega) (by omega) (by omega) (by rw [e76]; omega) (by rw [e76, e79]; omega) (by rw [e73]; omega) (fun r75 z75  => ?_)) (by decide))
                refine jr.if_eq rfl rfl (by omega) (fun h236 => ?_) (fun h236 => ?_)
                · refine jr.aload_n rfl rfl ?_
                  refine jr.getf (i := 50) (v := .ref 638) rfl rfl (by decide) rfl (by decide) rfl rfl rfl rfl ?_
                  refine jr.iload_n rfl rfl ?_
                  refine jr.iald (i := r4) (x := v69) rfl (by decide) rfl (by decide) (by omega) (by omega) e72 ?_
                  refine jr.bipush rfl (by decide) ?_
                  refine jr.icmp_lt rfl rfl (by omega) (by omega) (fun h250 => ?_) (fun h250 => ?_)
                  · refine jr.aload_n rfl rfl ?_
                    refine jr.getf (i := 50) (v := .ref 638) rfl rfl (by decide) rfl (by decide) rfl rfl rfl rfl ?_
                    refine jr.iload_n rfl rfl ?_
                    refine jr.iload rfl rfl ?_
                    refine jr.iast (i := r4) (x := r74) rfl (by decide) rfl (by decide) (by omega) (by omega) ?_
                    refine jr.aload_n rfl rfl ?_
                    refine jr.getf (i := 51) (v := .ref 639) rfl rfl (by decide) rfl (by decide) rfl rfl rfl rfl ?_
                    refine jr.iload_n rfl rfl ?_
                    refine jr.aload_n rfl rfl ?_
                    obtain ⟨v80, e80⟩ : ∃ z, M 598 2 = z := ⟨_, rfl⟩
                    have b80 : 0 ≤ v80 ∧ v80 ≤ 2000000 := by rw [← e80]; exact hI_M 598 2 (by decide)
                    have e81 : M1 598 2 = v80 := ((w1_2 2 (by decide) (by decide) (by decide) (by decide) (by decide) (by decide) (by decide) (by decide) (by decide) (by decide) (by decide)).trans e80)
                    have e82 : M3 598 2 = v80 := ((w3_2 2 (by decide) (by decide) (by decide) (by decide) (by decide) (by decide) (by decide)).trans e81)
                    have e83 : M4 598 2 = v80 := ((w4_2 2 (by decide)).trans e82)
                    refine jr.getf (i := 2) (x := v80) (v := .int (Int32.ofInt (v80))) rfl rfl (by decide) rfl (by decide) rfl rfl ((ju_c _ _ (by decide)).trans e83) rfl ?_
                    refine jr.aload_n rfl rfl ?_
                    refine jr.getf (i := 41) (v := .ref 629) rfl rfl (by decide) rfl (by decide) rfl rfl rfl rfl ?_
                    refine jr.iload_n rfl rfl ?_
                    obtain ⟨v84, e84⟩ : ∃ z, M 629 r4 = z := ⟨_, rfl⟩
                    have b84 : 0 ≤ v84 ∧ v84 ≤ 255 := by rw [← e84]; exact (by have q := hI_M 629 r4 (by decide); rw [xri_row rfl rfl] at q; exact q)
                    have e85 : M1 629 r4 = v84 := ((w1_1 629 r4 (by decide) (by decide) (by decide) (by decide)).trans e84)
                    have e86 : M3 629 r4 = v84 := ((w3_1 629 r4 (by decide)).trans e85)
                    have e87 : M4 629 r4 = v84 := ((w4_1 629 r4 (by decide)).trans e86)
                    refine jr.iald (i := r4) (x := v84) rfl (by decide) rfl (by decide) (by omega) (by omega) ((ju_c _ _ (by decide)).trans e87) ?_
                    refine jr.iload rfl rfl ?_
                    refine jr_s rfl rfl (Or.inl rfl) ⟨Nat.le_of_ble_eq_true rfl, Nat.le_of_ble_eq_true rfl⟩ rfl rfl (jc.deep (r_lives (RI.u hI_M4 (a := 638) (i := r4) (by rw [xri_row rfl rfl]; show (0 : Int) ≤ _ ∧ _ ≤ (15 : Int); omega)) (RH.o hH_M4 (by decide) (by decide) (by decide)) (RF.w hS_M4 (fun q => by rw [e87] at q; omega)) (Kp.o ht_M4 rfl) (by omega) (by omega)  (fun r88 z88  => ?_)) (by decide))
                    refine jr.iadd rfl ?_
                    refine jr.iast (i := r4) (x := (v80 + r88)) rfl (by decide) rfl (by decide) (by omega) (by omega) ?_
                    refine jr.aload_n rfl rfl ?_
                    refine jr.iload_n rfl rfl ?_
                    refine jr.iload_n rfl rfl ?_
                    refine jr_v rfl rfl (Or.inl rfl) rfl rfl (by decide) rfl ⟨rfl, Nat.le_of_ble_eq_true rfl, Nat.le_of_ble_eq_true rfl⟩ rfl (jc.deep (r_counts (RI.u (RI.u hI_M4 (a := 638) (i := r4) (by rw [xri_row rfl rfl]; show (0 : Int) ≤ _ ∧ _ ≤ (15 : Int); omega)) (a := 639) (i := r4) (by rw [xri_row rfl rfl]; show (-2147483648 : Int) ≤ _ ∧ _ ≤ (2147483647 : Int); omega)) (RH.o (RH.o hH_M4 (by decide) (by decide) (by decide)) (by decide) (by decide) (by decide)) (RF.o (RF.w hS_M4 (fun q => by rw [e87] at q; omega)) (by decide) (by decide)) (Kp.o (Kp.o ht_M4 rfl) rfl) (by omega) (by omega) (by rw [((ju_c _ _ (by decide)).trans ((ju_c _ _ (by decide)).trans e76))]; omega) (by rw [((ju_c _ _ (by decide)).trans ((ju_c _ _ (by decide)).trans e87)), ((ju_c _ _ (by decide)).trans ((ju_c _ _ (by decide)).trans e76)), ((ju_c _ _ (by decide)).trans ((ju_c _ _ (by decide)).trans e79))]; intro q; omega) (by rw [((ju_c _ _ (by decide)).trans ((ju_c _ _ (by decide)).trans e73))]; omega) (fun M89 hI_M89 hH_M89 hS_M89 ht_M89 w89_0 => ?_)) (by decide))
                    refine jr.iload_n rfl rfl ?_
                    exact jr.ireturn rfl rfl rfl (q _ _ hI_M89 hH_M89 hS_M89 ht_M89 (by omega) )
                  · refine jr.aload_n rfl rfl ?_
                    refine jr.getf (i := 66) (x := v73) (v := .int (Int32.ofInt (v73))) rfl rfl (by decide) rfl (by decide) rfl rfl e73 rfl ?_
                    refine jr.if_ne rfl rfl (by omega) (fun h257 => ?_) (fun h257 => ?_)
                    · refine jr.aload_n rfl rfl ?_
                      refine jr.getf (i := 50) (v := .ref 638) rfl rfl (by decide) rfl (by decide) rfl rfl rfl rfl ?_
                      refine jr.iload_n rfl rfl ?_
                      refine jr.iload rfl rfl ?_
                      refine jr.iast (i := r4) (x := r74) rfl (by decide) rfl (by decide) (by omega) (by omega) ?_
                      refine jr.aload_n rfl rfl ?_
                      refine jr.getf (i := 51) (v := .ref 639) rfl rfl (by decide) rfl (by decide) rfl rfl rfl rfl ?_
                      refine jr.iload_n rfl rfl ?_
                      refine jr.aload_n rfl rfl ?_
                      obtain ⟨v90, e90⟩ : ∃ z, M 598 2 = z := ⟨_, rfl⟩
                      have b90 : 0 ≤ v90 ∧ v90 ≤ 2000000 := by rw [← e90]; exact hI_M 598 2 (by decide)
                      have e91 : M1 598 2 = v90 := ((w1_2 2 (by decide) (by decide) (by decide) (by decide) (by decide) (by decide) (by decide) (by decide) (by decide) (by decide) (by decide)).trans e90)
                      have e92 : M3 598 2 = v90 := ((w3_2 2 (by decide) (by decide) (by decide) (by decide) (by decide) (by decide) (by decide)).trans e91)
                      have e93 : M4 598 2 = v90 := ((w4_2 2 (by decide)).trans e92)
                      refine jr.getf (i := 2) (x := v90) (v := .int (Int32.ofInt (v90))) rfl rfl (by decide) rfl (by decide) rfl rfl ((ju_c _ _ (by decide)).trans e93) rfl ?_
                      refine jr.aload_n rfl rfl ?_
                      refine jr.getf (i := 41) (v := .ref 629) rfl rfl (by decide) rfl (by decide) rfl rfl rfl rfl ?_
                      refine jr.iload_n rfl rfl ?_
                      obtain ⟨v94, e94⟩ : ∃ z, M 629 r4 = z := ⟨_, rfl⟩
                      have b94 : 0 ≤ v94 ∧ v94 ≤ 255 := by rw [← e94]; exact (by have q := hI_M 629 r4 (by decide); rw [xri_row rfl rfl] at q; exact q)
                      have e95 : M1 629 r4 = v94 := ((w1_1 629 r4 (by decide) (by decide) (by decide) (by decide)).trans e94)
                      have e96 : M3 629 r4 = v94 := ((w3_1 629 r4 (by decide)).trans e95)
                      have e97 : M4 629 r4 = v94 := ((w4_1 629 r4 (by decide)).trans e96)
                      refine jr.iald (i := r4) (x := v94) rfl (by decide) rfl (by decide) (by omega) (by omega) ((ju_c _ _ (by decide)).trans e97) ?_
                      refine jr.iload rfl rfl ?_
                      refine jr_s rfl rfl (Or.inl rfl) ⟨Nat.le_of_ble_eq_true rfl, Nat.le_of_ble_eq_true rfl⟩ rfl rfl (jc.deep (r_lives (RI.u hI_M4 (a := 638) (i := r4) (by rw [xri_row rfl rfl]; show (0 : Int) ≤ _ ∧ _ ≤ (15 : Int); omega)) (RH.o hH_M4 (by decide) (by decide) (by decide)) (RF.w hS_M4 (fun q => by rw [e97] at q; omega)) (Kp.o ht_M4 rfl) (by omega) (by omega)  (fun r98 z98  => ?_)) (by decide))
                      refine jr.iadd rfl ?_
                      refine jr.iast (i := r4) (x := (v90 + r98)) rfl (by decide) rfl (by decide) (by omega) (by omega) ?_
                      refine jr.aload_n rfl rfl ?_
                      refine jr.iload_n rfl rfl ?_
                      refine jr.iload_n rfl rfl ?_
                      refine jr_v rfl rfl (Or.inl rfl) rfl rfl (by decide) rfl ⟨rfl, Nat.le_of_ble_eq_true rfl, Nat.le_of_ble_eq_true rfl⟩ rfl (jc.deep (r_counts (RI.u (RI.u hI_M4 (a := 638) (i := r4) (by rw [xri_row rfl rfl]; show (0 : Int) ≤ _ ∧ _ ≤ (15 : Int); omega)) (a := 639) (i := r4) (by rw [xri_row rfl rfl]; show (-2147483648 : Int) ≤ _ ∧ _ ≤ (2147483647 : Int); omega)) (RH.o (RH.o hH_M4 (by decide) (by decide) (by decide)) (by decide) (by decide) (by decide)) (RF.o (RF.w hS_M4 (fun q => by rw [e97] at q; omega)) (by decide) (by decide)) (Kp.o (Kp.o ht_M4 rfl) rfl) (by omega) (by omega) (by rw [((ju_c _ _ (by decide)).trans ((ju_c _ _ (by decide)).trans e76))]; omega) (by rw [((ju_c _ _ (by decide)).trans ((ju_c _ _ (by decide)).trans e97)), ((ju_c _ _ (by decide)).trans ((ju_c _ _ (by decide)).trans e76)), ((ju_c _ _ (by decide)).trans ((ju_c _ _ (by decide)).trans e79))]; intro q; omega) (by rw [((ju_c _ _ (by decide)).trans ((ju_c _ _ (by decide)).trans e73))]; omega) (fun M99 hI_M99 hH_M99 hS_M99 ht_M99 w99_0 => ?_)) (by decide))
                      refine jr.iload_n rfl rfl ?_
                      exact jr.ireturn rfl rfl rfl (q _ _ hI_M99 hH_M99 hS_M99 ht_M99 (by omega) )
                    · refine jr.iload_n rfl rfl ?_
                      refine jr.if_ne rfl rfl (by omega) (fun _ => ?_) (fun h => absurd (by decide) h)
                      refine jr.aload_n rfl rfl ?_
                      refine jr.getf (i := 50) (v := .ref 638) rfl rfl (by decide) rfl (by decide) rfl rfl rfl rfl ?_
                      refine jr.iload_n rfl rfl ?_
                      refine jr.iload rfl rfl ?_
                      refine jr.iast (i := r4) (x := r74) rfl (by decide) rfl (by decide) (by omega) (by omega) ?_
                      refine jr.aload_n rfl rfl ?_
                      refine jr.getf (i := 51) (v := .ref 639) rfl rfl (by decide) rfl (by decide) rfl rfl rfl rfl ?_
                      refine jr.iload_n rfl rfl ?_
                      refine jr.aload_n rfl rfl ?_
                      obtain ⟨v100, e100⟩ : ∃ z, M 598 2 = z := ⟨_, rfl⟩
                      have b100 : 0 ≤ v100 ∧ v100 ≤ 2000000 := by rw [← e100]; exact hI_M 598 2 (by decide)
                      have e101 : M1 598 2 = v100 := ((w1_2 2 (by decide) (by decide) (by decide) (by decide) (by decide) (by decide) (by decide) (by decide) (by decide) (by decide) (by decide)).trans e100)
                      have e102 : M3 598 2 = v100 := ((w3_2 2 (by decide) (by decide) (by decide) (by decide) (by decide) (by decide) (by decide)).trans e101)
                      have e103 : M4 598 2 = v100 := ((w4_2 2 (by decide)).trans e102)
                      refine jr.getf (i := 2) (x := v100) (v := .int (Int32.ofInt (v100))) rfl rfl (by decide) rfl (by decide) rfl rfl ((ju_c _ _ (by decide)).trans e103) rfl ?_
                      refine jr.aload_n rfl rfl ?_
                      refine jr.getf (i := 41) (v := .ref 629) rfl rfl (by decide) rfl (by decide) rfl rfl rfl rfl ?_
                      refine jr.iload_n rfl rfl ?_
                      obtain ⟨v104, e104⟩ : ∃ z, M 629 r4 = z := ⟨_, rfl⟩
                      have b104 : 0 ≤ v104 ∧ v104 ≤ 255 := by rw [← e104]; exact (by have q := hI_M 629 r4 (by decide); rw [xri_row rfl rfl] at q; exact q)
                      have e105 : M1 629 r4 = v104 := ((w1_1 629 r4 (by decide) (by decide) (by decide) (by decide)).trans e104)
                      have e106 : M3 629 r4 = v104 := ((w3_1 629 r4 (by decide)).trans e105)
                      have e107 : M4 629 r4 = v104 := ((w4_1 629 r4 (by decide)).trans e106)
                      refine jr.iald (i := r4) (x := v104) rfl (by decide) rfl (by decide) (by omega) (by omega) ((ju_c _ _ (by decide)).trans e107) ?_
                      refine jr.iload rfl rfl ?_
                      refine jr_s rfl rfl (Or.inl rfl) ⟨Nat.le_of_ble_eq_true rfl, Nat.le_of_ble_eq_true rfl⟩ rfl rfl (jc.deep (r_lives (RI.u hI_M4 (a := 638) (i := r4) (by rw [xri_row rfl rfl]; show (0 : Int) ≤ _ ∧ _ ≤ (15 : Int); omega)) (RH.o hH_M4 (by decide) (by decide) (by decide)) (RF.w hS_M4 (fun q => by rw [e107] at q; omega)) (Kp.o ht_M4 rfl) (by omega) (by omega)  (fun r108 z108  => ?_)) (by decide))
                      refine jr.iadd rfl ?_
                      refine jr.iast (i := r4) (x := (v100 + r108)) rfl (by decide) rfl (by decide) (by omega) (by omega) ?_
                      refine jr.aload_n rfl rfl ?_
                      refine jr.iload_n rfl rfl ?_
                      refine jr.iload_n rfl rfl ?_
                      refine jr_v rfl rfl (Or.inl rfl) rfl rfl (by decide) rfl ⟨rfl, Nat.le_of_ble_eq_true rfl, Nat.le_of_ble_eq_true rfl⟩ rfl (jc.deep (r_counts (RI.u (RI.u hI_M4 (a := 638) (i := r4) (by rw [xri_row rfl rfl]; show (0 : Int) ≤ _ ∧ _ ≤ (15 : Int); omega)) (a := 639) (i := r4) (by rw [xri_row rfl rfl]; show (-2147483648 : Int) ≤ _ ∧ _ ≤ (2147483647 : Int); omega)) (RH.o (RH.o hH_M4 (by decide) (by decide) (by decide)) (by decide) (by decide) (by decide)) (RF.o (RF.w hS_M4 (fun q => by rw [e107] at q; omega)) (by decide) (by decide)) (Kp.o (Kp.o ht_M4 rfl) rfl) (by omega) (by omega) (by rw [((ju_c _ _ (by decide)).trans ((ju_c _ _ (by decide)).trans e76))]; omega) (by rw [((ju_c _ _ (by decide)).trans ((ju_c _ _ (by decide)).trans e107)), ((ju_c _ _ (by decide)).trans ((ju_c _ _ (by decide)).trans e76)), ((ju_c _ _ (by decide)).trans ((ju_c _ _ (by decide)).trans e79))]; intro q; omega) (by rw [((ju_c _ _ (by decide)).trans ((ju_c _ _ (by decide)).trans e73))]; omega) (fun M109 hI_M109 hH_M109 hS_M109 ht_M109 w109_0 => ?_)) (by decide))
                      refine jr.iload_n rfl rfl ?_
                      exact jr.ireturn rfl rfl rfl (q _ _ hI_M109 hH_M109 hS_M109 ht_M109 (by omega) )
                · refine jr.bipush rfl (by decide) ?_
                  exact jr.ireturn rfl rfl rfl (q _ _ hI_M4 hH_M4 hS_M4 ht_M4 (by omega) )
              · refine jr.bipush rfl (by decide) ?_
                exact jr.ireturn rfl rfl rfl (q _ _ hI_M4 hH_M4 hS_M4 ht_M4 (by omega) )
          · refine jr.aload_n rfl rfl ?_
            refine jr.getf (i := 60) (x := v5) (v := .int (Int32.ofInt (v5))) rfl rfl (by decide) rfl (by decide) rfl rfl e6 rfl ?_
            refine jr.bipush rfl (by decide) ?_
            refine jr.icmp_ne rfl rfl (by omega) (by omega) (fun h100 => ?_) (fun h100 => ?_)
            · refine jr.aload_n rfl rfl ?_
              refine jr.getf (i := 60) (x := v5) (v := .int (Int32.ofInt (v5))) rfl rfl (by decide) rfl (by decide) rfl rfl e6 rfl ?_
              refine jr.bipush rfl (by decide) ?_
              refine jr.icmp_eq rfl rfl (by omega) (by omega) (fun h121 => ?_) (fun h121 => ?_)
              · refine jr.iconst rfl ?_
                refine jr.goto rfl rfl ?_
                refine jr.istore rfl (by decide) rfl ?_
                refine jr.iload rfl rfl ?_
                refine jr.if_ne rfl rfl (by omega) (fun _ => ?_) (fun h => absurd (by decide) h)
                refine jr.aload_n rfl rfl ?_
                refine jr_v rfl rfl (Or.inl rfl) rfl rfl (by decide) rfl ⟨rfl, Nat.le_of_ble_eq_true rfl, Nat.le_of_ble_eq_true rfl⟩ rfl (jc.deep (r_beginFlow hI_M4 hH_M4 hS_M4 ht_M4   (fun r110 M110 hI_M110 hH_M110 ht_M110 z110 w110_0 w110_1 w110_2 => ?_)) (by decide))
                refine jr.istore_n rfl (by decide) rfl ?_
                refine jr.iload_n rfl rfl ?_
                refine jr.iconst rfl ?_
                refine jr.icmp_ne rfl rfl (by omega) (by omega) (fun h165 => ?_) (fun h165 => ?_)
                · refine jr.aload_n rfl rfl ?_
                  refine jr.iconst rfl ?_
                  refine jr.putf (i := 66) (x := 0) rfl rfl (by decide) rfl (by decide) rfl rfl rfl rfl rfl ?_
                  refine jr.aload_n rfl rfl ?_
                  have e111 : M110 598 60 = v5 := ((w110_2 598 60 (by decide) (by decide) (by decide) (by decide) (by decide) (by decide) (by decide) (by decide) (by decide) (by decide) (by decide) (by decide)).trans e6)
                  refine jr.getf (i := 60) (x := v5) (v := .int (Int32.ofInt (v5))) rfl rfl (by decide) rfl (by decide) rfl rfl ((ju_i _ _ (by decide)).trans e111) rfl ?_
                  refine jr.bipush rfl (by decide) ?_
                  refine jr.icmp_ne rfl rfl (by omega) (by omega) (fun h182 => ?_) (fun h182 => ?_)
                  · refine jr.iconst rfl ?_
                    refine jr.istore rfl (by decide) rfl ?_
                    refine jr.goto rfl rfl ?_
                    refine jr.aload_n rfl rfl ?_
                    refine jr.getf (i := 50) (v := .ref 638) rfl rfl (by decide) rfl (by decide) rfl rfl rfl rfl ?_
                    refine jr.iload_n rfl rfl ?_
                    refine jr.iload rfl rfl ?_
                    refine jr.iast (i := r110) (x := 0) rfl (by decide) rfl (by decide) (by omega) (by omega) ?_
                    refine jr.aload_n rfl rfl ?_
                    refine jr.getf (i := 51) (v := .ref 639) rfl rfl (by decide) rfl (by decide) rfl rfl rfl rfl ?_
                    refine jr.iload_n rfl rfl ?_
                    refine jr.aload_n rfl rfl ?_
                    obtain ⟨v112, e112⟩ : ∃ z, M 598 2 = z := ⟨_, rfl⟩
                    have b112 : 0 ≤ v112 ∧ v112 ≤ 2000000 := by rw [← e112]; exact hI_M 598 2 (by decide)
                    have e113 : M1 598 2 = v112 := ((w1_2 2 (by decide) (by decide) (by decide) (by decide) (by decide) (by decide) (by decide) (by decide) (by decide) (by decide) (by decide)).trans e112)
                    have e114 : M3 598 2 = v112 := ((w3_2 2 (by decide) (by decide) (by decide) (by decide) (by decide) (by decide) (by decide)).trans e113)
                    have e115 : M4 598 2 = v112 := ((w4_2 2 (by decide)).trans e114)
                    have e116 : M110 598 2 = v112 := ((w110_2 598 2 (by decide) (by decide) (by decide) (by decide) (by decide) (by decide) (by decide) (by decide) (by decide) (by decide) (by decide) (by decide)).trans e115)
                    refine jr.getf (i := 2) (x := v112) (v := .int (Int32.ofInt (v112))) rfl rfl (by decide) rfl (by decide) rfl rfl ((ju_c _ _ (by decide)).trans ((ju_i _ _ (by decide)).trans e116)) rfl ?_
                    refine jr.aload_n rfl rfl ?_
                    refine jr.getf (i := 41) (v := .ref 629) rfl rfl (by decide) rfl (by decide) rfl rfl rfl rfl ?_
                    refine jr.iload_n rfl rfl ?_
                    obtain ⟨v117, e117⟩ : ∃ z, M110 629 r110 = z := ⟨_, rfl⟩
                    have b117 : 0 ≤ v117 ∧ v117 ≤ 255 := by rw [← e117]; exact (by have q := hI_M110 629 r110 (by decide); rw [xri_row rfl rfl] at q; exact q)
                    refine jr.iald (i := r110) (x := v117) rfl (by decide) rfl (by decide) (by omega) (by omega) ((ju_c _ _ (by decide)).trans ((ju_c _ _ (by decide)).trans e117)) ?_
                    refine jr.iload rfl rfl ?_
                    refine jr_s rfl rfl (Or.inl rfl) ⟨Nat.le_of_ble_eq_true rfl, Nat.le_of_ble_eq_true rfl⟩ rfl rfl (jc.deep (r_lives (RI.u (RI.u hI_M110 (a := 598) (i := 66) (show (-1 : Int) ≤ _ ∧ _ ≤ (1 : Int) from by omega)) (a := 638) (i := r110) (by rw [xri_row rfl rfl]; show (0 : Int) ≤ _ ∧ _ ≤ (15 : Int); omega)) (RH.o (RH.o hH_M110 (by decide) (by decide) (by decide)) (by decide) (by decide) (by decide)) (RFx.w (RFx.o w110_0 (by decide) (by decide)) (fun q => by rw [((ju_c _ _ (by decide)).trans e117)] at q; omega)) (Kp.o (Kp.o ht_M110 rfl) rfl) (by omega) (by omega)  (fun r118 z118  => ?_)) (by decide))
                    refine jr.iadd rfl ?_
                    refine jr.iast (i := r110) (x := (v112 + r118)) rfl (by decide) rfl (by decide) (by omega) (by omega) ?_
                    refine jr.aload_n rfl rfl ?_
                    refine jr.iload_n rfl rfl ?_
                    refine jr.iload_n rfl rfl ?_
                    have e120 : M4 598 65 = ea := ((w4_2 65 (by decide)).trans hea)
                    have e121 : M110 598 65 = ea := ((w110_2 598 65 (by decide) (by decide) (by decide) (by decide) (by decide) (by decide) (by decide) (by decide) (by decide) (by decide) (by decide) (by decide)).trans e120)
                    obtain ⟨v122, e122⟩ : ∃ z, M1 604 ea = z := ⟨_, rfl⟩
                    have b122 : 0 ≤ v122 ∧ v122 ≤ 400 := by rw [← e122]; exact (by have q := hI_M1 604 ea (by decide); rw [xri_row rfl rfl] at q; exact q)
                    have e123 : M3 604 ea = v122 := ((w3_1 604 ea (by decide)).trans e122)
                    have e124 : M4 604 ea = v122 := ((w4_1 604 ea (by decide)).trans e123)
                    have e125 : M110 604 ea = v122 := ((w110_2 604 ea (by decide) (by decide) (by decide) (by decide) (by decide) (by decide) (by decide) (by decide) (by decide) (by decide) (by decide) (by decide)).trans e124)
                    refine jr_v rfl rfl (Or.inl rfl) rfl rfl (by decide) rfl ⟨rfl, Nat.le_of_ble_eq_true rfl, Nat.le_of_ble_eq_true rfl⟩ rfl (jc.deep (r_counts (RI.u (RI.u (RI.u hI_M110 (a := 598) (i := 66) (show (-1 : Int) ≤ _ ∧ _ ≤ (1 : Int) from by omega)) (a := 638) (i := r110) (by rw [xri_row rfl rfl]; show (0 : Int) ≤ _ ∧ _ ≤ (15 : Int); omega)) (a := 639) (i := r110) (by rw [xri_row rfl rfl]; show (-2147483648 : Int) ≤ _ ∧ _ ≤ (2147483647 : Int); omega)) (RH.o (RH.o (RH.o hH_M110 (by decide) (by decide) (by decide)) (by decide) (by decide) (by decide)) (by decide) (by decide) (by decide)) (RF.o (RFx.w (RFx.o w110_0 (by decide) (by decide)) (fun q => by rw [((ju_c _ _ (by decide)).trans e117)] at q; omega)) (by decide) (by decide)) (Kp.o (Kp.o (Kp.o ht_M110 rfl) rfl) rfl) (by omega) (by omega) (by rw [((ju_c _ _ (by decide)).trans ((ju_c _ _ (by decide)).trans ((ju_i _ _ (by decide)).trans e121)))]; omega) (by rw [((ju_c _ _ (by decide)).trans ((ju_c _ _ (by decide)).trans ((ju_c _ _ (by decide)).trans e117))), ((ju_c _ _ (by decide)).trans ((ju_c _ _ (by decide)).trans ((ju_i _ _ (by decide)).trans e121))), ((ju_c _ _ (by decide)).trans ((ju_c _ _ (by decide)).trans ((ju_c _ _ (by decide)).trans e125)))]; intro q; omega) (by rw [((ju_c _ _ (by decide)).trans ((ju_c _ _ (by decide)).trans (ju_same _ _ _ _)))]; omega) (fun M119 hI_M119 hH_M119 hS_M119 ht_M119 w119_0 => ?_)) (by decide))
                    refine jr.iload_n rfl rfl ?_
                    exact jr.ireturn rfl rfl rfl (q _ _ hI_M119 hH_M119 hS_M119 ht_M119 (by omega) )
                  · exact absurd (by omega) h182
                · refine jr.bipush rfl (by decide) ?_
                  exact jr.ireturn rfl rfl rfl (q _ _ hI_M110 hH_M110 (RFx.none w110_0 (by omega)) ht_M110 (by omega) )
              · refine jr.aload_n rfl rfl ?_
                refine jr.iload_n rfl rfl ?_
                refine jr.aload_n rfl rfl ?_
                refine jr.getf (i := 8) (v := .ref 604) rfl rfl (by decide) rfl (by decide) rfl rfl rfl rfl ?_
                refine jr.aload_n rfl rfl ?_
                have e126 : M4 598 65 = ea := ((w4_2 65 (by decide)).trans hea)
                refine jr.getf (i := 65) (x := ea) (v := .int (Int32.ofInt (ea))) rfl rfl (by decide) rfl (by decide) rfl rfl e126 rfl ?_
                obtain ⟨v127, e127⟩ : ∃ z, M1 604 ea = z := ⟨_, rfl⟩
                have b127 : 0 ≤ v127 ∧ v127 ≤ 400 := by rw [← e127]; exact (by have q := hI_M1 604 ea (by decide); rw [xri_row rfl rfl] at q; exact q)
                have e128 : M3 604 ea = v127 := ((w3_1 604 ea (by decide)).trans e127)
                have e129 : M4 604 ea = v127 := ((w4_1 604 ea (by decide)).trans e128)
                refine jr.iald (i := ea) (x := v127) rfl (by decide) rfl (by decide) (by omega) (by omega) e129 ?_
                refine jr_v rfl rfl (Or.inl rfl) rfl rfl (by decide) rfl ⟨rfl, Nat.le_of_ble_eq_true rfl, Nat.le_of_ble_eq_true rfl⟩ rfl (jc.deep (r_one hI_M4 hH_M4 hS_M4 ht_M4 (by omega) (by omega)  (fun r130 z130 w130_0 => ?_)) (by decide))
                refine jr.bipush rfl (by decide) ?_
                refine jr.icmp_ne rfl rfl (by omega) (by omega) (fun h140 => ?_) (fun h140 => ?_)
                · refine jr.iconst rfl ?_
                  refine jr.istore rfl (by decide) rfl ?_
                  refine jr.iload rfl rfl ?_
                  refine jr.if_ne rfl rfl (by omega) (fun h => absurd h (by decide)) (fun _ => ?_)
                  refine jr.bipush rfl (by decide) ?_
                  exact jr.ireturn rfl rfl rfl (q _ _ hI_M4 hH_M4 hS_M4 ht_M4 (by omega) )
                · refine jr.iconst rfl ?_
                  refine jr.goto rfl rfl ?_
                  refine jr.istore rfl (by decide) rfl ?_
                  refine jr.iload rfl rfl ?_
                  refine jr.if_ne rfl rfl (by omega) (fun _ => ?_) (fun h => absurd (by decide) h)
                  refine jr.aload_n rfl rfl ?_
                  refine jr_v rfl rfl (Or.inl rfl) rfl rfl (by decide) rfl ⟨rfl, Nat.le_of_ble_eq_true rfl, Nat.le_of_ble_eq_true rfl⟩ rfl (jc.deep (r_beginFlow hI_M4 hH_M4 hS_M4 ht_M4   (fun r131 M131 hI_M131 hH_M131 ht_M131 z131 w131_0 w131_1 w131_2 => ?_)) (by decide))
                  refine jr.istore_n rfl (by decide) rfl ?_
                  refine jr.iload_n rfl rfl ?_
                  refine jr.iconst rfl ?_
                  refine jr.icmp_ne rfl rfl (by omega) (by omega) (fun h165 => ?_) (fun h165 => ?_)
                  · refine jr.aload_n rfl rfl ?_
                    refine jr.iconst rfl ?_
                    refine jr.putf (i := 66) (x := 0) rfl rfl (by decide) rfl (by decide) rfl rfl rfl rfl rfl ?_
                    refine jr.aload_n rfl rfl ?_
                    have e132 : M131 598 60 = v5 := ((w131_2 598 60 (by decide) (by decide) (by decide) (by decide) (by decide) (by decide) (by decide) (by decide) (by decide) (by decide) (by decide) (by decide)).trans e6)
                    refine jr.getf (i := 60) (x := v5) (v := .int (Int32.ofInt (v5))) rfl rfl (by decide) rfl (by decide) rfl rfl ((ju_i _ _ (by decide)).trans e132) rfl ?_
                    refine jr.bipush rfl (by decide) ?_
                    refine jr.icmp_ne rfl rfl (by omega) (by omega) (fun h182 => ?_) (fun h182 => ?_)
                    · refine jr.iconst rfl ?_
                      refine jr.istore rfl (by decide) rfl ?_
                      refine jr.goto rfl rfl ?_
                      refine jr.aload_n rfl rfl ?_
                      refine jr.getf (i := 50) (v := .ref 638) rfl rfl (by decide) rfl (by decide) rfl rfl rfl rfl ?_
                      refine jr.iload_n rfl rfl ?_
                      refine jr.iload rfl rfl ?_
                      refine jr.iast (i := r131) (x := 0) rfl (by decide) rfl (by decide) (by omega) (by omega) ?_
                      refine jr.aload_n rfl rfl ?_
                      refine jr.getf (i := 51) (v := .ref 639) rfl rfl (by decide) rfl (by decide) rfl rfl rfl rfl ?_
                      refine jr.iload_n rfl rfl ?_
                      refine jr.aload_n rfl rfl ?_
                      obtain ⟨v133, e133⟩ : ∃ z, M 598 2 = z := ⟨_, rfl⟩
                      have b133 : 0 ≤ v133 ∧ v133 ≤ 2000000 := by rw [← e133]; exact hI_M 598 2 (by decide)
                      have e134 : M1 598 2 = v133 := ((w1_2 2 (by decide) (by decide) (by decide) (by decide) (by decide) (by decide) (by decide) (by decide) (by decide) (by decide) (by decide)).trans e133)
                      have e135 : M3 598 2 = v133 := ((w3_2 2 (by decide) (by decide) (by decide) (by decide) (by decide) (by decide) (by decide)).trans e134)
                      have e136 : M4 598 2 = v133 := ((w4_2 2 (by decide)).trans e135)
                      have e137 : M131 598 2 = v133 := ((w131_2 598 2 (by decide) (by decide) (by decide) (by decide) (by decide) (by decide) (by decide) (by decide) (by decide) (by decide) (by decide) (by decide)).trans e136)
                      refine jr.getf (i := 2) (x := v133) (v := .int (Int32.ofInt (v133))) rfl rfl (by decide) rfl (by decide) rfl rfl ((ju_c _ _ (by decide)).trans ((ju_i _ _ (by decide)).trans e137)) rfl ?_
                      refine jr.aload_n rfl rfl ?_
                      refine jr.getf (i := 41) (v := .ref 629) rfl rfl (by decide) rfl (by decide) rfl rfl rfl rfl ?_
                      refine jr.iload_n rfl rfl ?_
                      obtain ⟨v138, e138⟩ : ∃ z, M131 629 r131 = z := ⟨_, rfl⟩
                      have b138 : 0 ≤ v138 ∧ v138 ≤ 255 := by rw [← e138]; exact (by have q := hI_M131 629 r131 (by decide); rw [xri_row rfl rfl] at q; exact q)
                      refine jr.iald (i := r131) (x := v138) rfl (by decide) rfl (by decide) (by omega) (by omega) ((ju_c _ _ (by decide)).trans ((ju_c _ _ (by decide)).trans e138)) ?_
                      refine jr.iload rfl rfl ?_
                      refine jr_s rfl rfl (Or.inl rfl) ⟨Nat.le_of_ble_eq_true rfl, Nat.le_of_ble_eq_true rfl⟩ rfl rfl (jc.deep (r_lives (RI.u (RI.u hI_M131 (a := 598) (i := 66) (show (-1 : Int) ≤ _ ∧ _ ≤ (1 : Int) from by omega)) (a := 638) (i := r131) (by rw [xri_row rfl rfl]; show (0 : Int) ≤ _ ∧ _ ≤ (15 : Int); omega)) (RH.o (RH.o hH_M131 (by decide) (by decide) (by decide)) (by decide) (by decide) (by decide)) (RFx.w (RFx.o w131_0 (by decide) (by decide)) (fun q => by rw [((ju_c _ _ (by decide)).trans e138)] at q; omega)) (Kp.o (Kp.o ht_M131 rfl) rfl) (by omega) (by omega)  (fun r139 z139  => ?_)) (by decide))
                      refine jr.iadd rfl ?_
                      refine jr.iast (i := r131) (x := (v133 + r139)) rfl (by decide) rfl (by decide) (by omega) (by omega) ?_
                      refine jr.aload_n rfl rfl ?_
                      refine jr.iload_n rfl rfl ?_
                      refine jr.iload_n rfl rfl ?_
                      have e141 : M131 598 65 = ea := ((w131_2 598 65 (by decide) (by decide) (by decide) (by decide) (by decide) (by decide) (by decide) (by decide) (by decide) (by decide) (by decide) (by decide)).trans e126)
                      have e142 : M131 604 ea = v127 := ((w131_2 604 ea (by decide) (by decide) (by decide) (by decide) (by decide) (by decide) (by decide) (by decide) (by decide) (by decide) (by decide) (by decide)).trans e129)
                      refine jr_v rfl rfl (Or.inl rfl) rfl rfl (by decide) rfl ⟨rfl, Nat.le_of_ble_eq_true rfl, Nat.le_of_ble_eq_true rfl⟩ rfl (jc.deep (r_counts (RI.u (RI.u (RI.u hI_M131 (a := 598) (i := 66) (show (-1 : Int) ≤ _ ∧ _ ≤ (1 : Int) from by omega)) (a := 638) (i := r131) (by rw [xri_row rfl rfl]; show (0 : Int) ≤ _ ∧ _ ≤ (15 : Int); omega)) (a := 639) (i := r131) (by rw [xri_row rfl rfl]; show (-2147483648 : Int) ≤ _ ∧ _ ≤ (2147483647 : Int); omega)) (RH.o (RH.o (RH.o hH_M131 (by decide) (by decide) (by decide)) (by decide) (by decide) (by decide)) (by decide) (by decide) (by decide)) (RF.o (RFx.w (RFx.o w131_0 (by decide) (by decide)) (fun q => by rw [((ju_c _ _ (by decide)).trans e138)] at q; omega)) (by decide) (by decide)) (Kp.o (Kp.o (Kp.o ht_M131 rfl) rfl) rfl) (by omega) (by omega) (by rw [((ju_c _ _ (by decide)).trans ((ju_c _ _ (by decide)).trans ((ju_i _ _ (by decide)).trans e141)))]; omega) (by rw [((ju_c _ _ (by decide)).trans ((ju_c _ _ (by decide)).trans ((ju_c _ _ (by decide)).trans e138))), ((ju_c _ _ (by decide)).trans ((ju_c _ _ (by decide)).trans ((ju_i _ _ (by decide)).trans e141))), ((ju_c _ _ (by decide)).trans ((ju_c _ _ (by decide)).trans ((ju_c _ _ (by decide)).trans e142)))]; intro q; omega) (by rw [((ju_c _ _ (by decide)).trans ((ju_c _ _ (by decide)).trans (ju_same _ _ _ _)))]; omega) (fun M140 hI_M140 hH_M140 hS_M140 ht_M140 w140_0 => ?_)) (by decide))
                      refine jr.iload_n rfl rfl ?_
                      exact jr.ireturn rfl rfl rfl (q _ _ hI_M140 hH_M140 hS_M140 ht_M140 (by omega) )
                    · refine jr.iconst rfl ?_
                      refine jr.goto rfl rfl ?_
                      refine jr.istore rfl (by decide) rfl ?_
                      refine jr.goto rfl rfl ?_
                      refine jr.aload_n rfl rfl ?_
                      refine jr.getf (i := 50) (v := .ref 638) rfl rfl (by decide) rfl (by decide) rfl rfl rfl rfl ?_
                      refine jr.iload_n rfl rfl ?_
                      refine jr.iload rfl rfl ?_
                      refine jr.iast (i := r131) (x := 1) rfl (by decide) rfl (by decide) (by omega) (by omega) ?_
                      refine jr.aload_n rfl rfl ?_
                      refine jr.getf (i := 51) (v := .ref 639) rfl rfl (by decide) rfl (by decide) rfl rfl rfl rfl ?_
                      refine jr.iload_n rfl rfl ?_
                      refine jr.aload_n rfl rfl ?_
                      obtain ⟨v143, e143⟩ : ∃ z, M 598 2 = z := ⟨_, rfl⟩
                      have b143 : 0 ≤ v143 ∧ v143 ≤ 2000000 := by rw [← e143]; exact hI_M 598 2 (by decide)
                      have e144 : M1 598 2 = v143 := ((w1_2 2 (by decide) (by decide) (by decide) (by decide) (by decide) (by decide) (by decide) (by decide) (by decide) (by decide) (by decide)).trans e143)
                      have e145 : M3 598 2 = v143 := ((w3_2 2 (by decide) (by decide) (by decide) (by decide) (by decide) (by decide) (by decide)).trans e144)
                      have e146 : M4 598 2 = v143 := ((w4_2 2 (by decide)).trans e145)
                      have e147 : M131 598 2 = v143 := ((w131_2 598 2 (by decide) (by decide) (by decide) (by decide) (by decide) (by decide) (by decide) (by decide) (by decide) (by decide) (by decide) (by decide)).trans e146)
                      refine jr.getf (i := 2) (x := v143) (v := .int (Int32.ofInt (v143))) rfl rfl (by decide) rfl (by decide) rfl rfl ((ju_c _ _ (by decide)).trans ((ju_i _ _ (by decide)).trans e147)) rfl ?_
                      refine jr.aload_n rfl rfl ?_
                      refine jr.getf (i := 41) (v := .ref 629) rfl rfl (by decide) rfl (by decide) rfl rfl rfl rfl ?_
                      refine jr.iload_n rfl rfl ?_
                      obtain ⟨v148, e148⟩ : ∃ z, M131 629 r131 = z := ⟨_, rfl⟩
                      have b148 : 0 ≤ v148 ∧ v148 ≤ 255 := by rw [← e148]; exact (by have q := hI_M131 629 r131 (by decide); rw [xri_row rfl rfl] at q; exact q)
                      refine jr.iald (i := r131) (x := v148) rfl (by decide) rfl (by decide) (by omega) (by omega) ((ju_c _ _ (by decide)).trans ((ju_c _ _ (by decide)).trans e148)) ?_
                      refine jr.iload rfl rfl ?_
                      refine jr_s rfl rfl (Or.inl rfl) ⟨Nat.le_of_ble_eq_true rfl, Nat.le_of_ble_eq_true rfl⟩ rfl rfl (jc.deep (r_lives (RI.u (RI.u hI_M131 (a := 598) (i := 66) (show (-1 : Int) ≤ _ ∧ _ ≤ (1 : Int) from by omega)) (a := 638) (i := r131) (by rw [xri_row rfl rfl]; show (0 : Int) ≤ _ ∧ _ ≤ (15 : Int); omega)) (RH.o (RH.o hH_M131 (by decide) (by decide) (by decide)) (by decide) (by decide) (by decide)) (RFx.w (RFx.o w131_0 (by decide) (by decide)) (fun q => by rw [((ju_c _ _ (by decide)).trans e148)] at q; omega)) (Kp.o (Kp.o ht_M131 rfl) rfl) (by omega) (by omega)  (fun r149 z149  => ?_)) (by decide))
                      refine jr.iadd rfl ?_
                      refine jr.iast (i := r131) (x := (v143 + r149)) rfl (by decide) rfl (by decide) (by omega) (by omega) ?_
                      refine jr.aload_n rfl rfl ?_
                      refine jr.iload_n rfl rfl ?_
                      refine jr.iload_n rfl rfl ?_
                      have e151 : M131 598 65 = ea := ((w131_2 598 65 (by decide) (by decide) (by decide) (by decide) (by decide) (by decide) (by decide) (by decide) (by decide) (by decide) (by decide) (by decide)).trans e126)
                      have e152 : M131 604 ea = v127 := ((w131_2 604 ea (by decide) (by decide) (by decide) (by decide) (by decide) (by decide) (by decide) (by decide) (by decide) (by decide) (by decide) (by decide)).trans e129)
                      refine jr_v rfl rfl (Or.inl rfl) rfl rfl (by decide) rfl ⟨rfl, Nat.le_of_ble_eq_true rfl, Nat.le_of_ble_eq_true rfl⟩ rfl (jc.deep (r_counts (RI.u (RI.u (RI.u hI_M131 (a := 598) (i := 66) (show (-1 : Int) ≤ _ ∧ _ ≤ (1 : Int) from by omega)) (a := 638) (i := r131) (by rw [xri_row rfl rfl]; show (0 : Int) ≤ _ ∧ _ ≤ (15 : Int); omega)) (a := 639) (i := r131) (by rw [xri_row rfl rfl]; show (-2147483648 : Int) ≤ _ ∧ _ ≤ (2147483647 : Int); omega)) (RH.o (RH.o (RH.o hH_M131 (by decide) (by decide) (by decide)) (by decide) (by decide) (by decide)) (by decide) (by decide) (by decide)) (RF.o (RFx.w (RFx.o w131_0 (by decide) (by decide)) (fun q => by rw [((ju_c _ _ (by decide)).trans e148)] at q; omega)) (by decide) (by decide)) (Kp.o (Kp.o (Kp.o ht_M131 rfl) rfl) rfl) (by omega) (by omega) (by rw [((ju_c _ _ (by decide)).trans ((ju_c _ _ (by decide)).trans ((ju_i _ _ (by decide)).trans e151)))]; omega) (by rw [((ju_c _ _ (by decide)).trans ((ju_c _ _ (by decide)).trans ((ju_c _ _ (by decide)).trans e148))), ((ju_c _ _ (by decide)).trans ((ju_c _ _ (by decide)).trans ((ju_i _ _ (by decide)).trans e151))), ((ju_c _ _ (by decide)).trans ((ju_c _ _ (by decide)).trans ((ju_c _ _ (by decide)).trans e152)))]; intro q; omega) (by rw [((ju_c _ _ (by decide)).trans ((ju_c _ _ (by decide)).trans (ju_same _ _ _ _)))]; omega) (fun M150 hI_M150 hH_M150 hS_M150 ht_M150 w150_0 => ?_)) (by decide))
                      refine jr.iload_n rfl rfl ?_
                      exact jr.ireturn rfl rfl rfl (q _ _ hI_M150 hH_M150 hS_M150 ht_M150 (by omega) )
                  · refine jr.bipush rfl (by decide) ?_
                    exact jr.ireturn rfl rfl rfl (q _ _ hI_M131 hH_M131 (RFx.none w131_0 (by omega)) ht_M131 (by omega) )
            · refine jr.iload_n rfl rfl ?_
              refine jr.if_ne rfl rfl (by omega) (fun _ => ?_) (fun h => absurd (by decide) h)
              refine jr.iconst rfl ?_
              refine jr.goto rfl rfl ?_
              refine jr.istore rfl (by decide) rfl ?_
              refine jr.iload rfl rfl ?_
              refine jr.if_ne rfl rfl (by omega) (fun h => absurd h (by decide)) (fun _ => ?_)
              refine jr.bipush rfl (by decide) ?_
              exact jr.ireturn rfl rfl rfl (q _ _ hI_M4 hH_M4 hS_M4 ht_M4 (by omega) )
        · refine jr.aload_n rfl rfl ?_
          refine jr.iload_n rfl rfl ?_
          refine jr.aload_n rfl rfl ?_
          refine jr.getf (i := 8) (v := .ref 604) rfl rfl (by decide) rfl (by decide) rfl rfl rfl rfl ?_
          refine jr.aload_n rfl rfl ?_
          have e153 : M4 598 65 = ea := ((w4_2 65 (by decide)).trans hea)
          refine jr.getf (i := 65) (x := ea) (v := .int (Int32.ofInt (ea))) rfl rfl (by decide) rfl (by decide) rfl rfl e153 rfl ?_
          obtain ⟨v154, e154⟩ : ∃ z, M1 604 ea = z := ⟨_, rfl⟩
          have b154 : 0 ≤ v154 ∧ v154 ≤ 400 := by rw [← e154]; exact (by have q := hI_M1 604 ea (by decide); rw [xri_row rfl rfl] at q; exact q)
          have e155 : M3 604 ea = v154 := ((w3_1 604 ea (by decide)).trans e154)
          have e156 : M4 604 ea = v154 := ((w4_1 604 ea (by decide)).trans e155)
          refine jr.iald (i := ea) (x := v154) rfl (by decide) rfl (by decide) (by omega) (by omega) e156 ?_
          refine jr.bipush rfl (by decide) ?_
          refine jr.iadd rfl ?_
          refine jr_v rfl rfl (Or.inl rfl) rfl rfl (by decide) rfl ⟨rfl, Nat.le_of_ble_eq_true rfl, Nat.le_of_ble_eq_true rfl⟩ rfl (jc.deep (r_one hI_M4 hH_M4 hS_M4 ht_M4 (by omega) (by omega)  (fun r157 z157 w157_0 => ?_)) (by decide))
          refine jr_s rfl rfl (Or.inl rfl) ⟨Nat.le_of_ble_eq_true rfl, Nat.le_of_ble_eq_true rfl⟩ rfl rfl (jc.deep (r_classOf hI_M4 hH_M4 hS_M4 ht_M4 (by omega)  (fun r158 z158  => ?_)) (by decide))
          refine jr.goto rfl rfl ?_
          refine jr.istore_n rfl (by decide) rfl ?_
          refine jr.iconst rfl ?_
          refine jr.istore rfl (by decide) rfl ?_
          refine jr.iload_n rfl rfl ?_
          refine jr.iconst rfl ?_
          refine jr.icmp_ne rfl rfl (by omega) (by omega) (fun h91 => ?_) (fun h91 => ?_)
          · refine jr.aload_n rfl rfl ?_
            refine jr.getf (i := 60) (x := v5) (v := .int (Int32.ofInt (v5))) rfl rfl (by decide) rfl (by decide) rfl rfl e6 rfl ?_
            refine jr.bipush rfl (by decide) ?_
            refine jr.icmp_ne rfl rfl (by omega) (by omega) (fun h201 => ?_) (fun h201 => ?_)
            · exact absurd h201 (by omega)
            · refine jr.aload_n rfl rfl ?_
              refine jr.aload_n rfl rfl ?_
              refine jr.getf (i := 50) (v := .ref 638) rfl rfl (by decide) rfl (by decide) rfl rfl rfl rfl ?_
              refine jr.iload_n rfl rfl ?_
              obtain ⟨v159, e159⟩ : ∃ z, M 638 r4 = z := ⟨_, rfl⟩
              have b159 : 0 ≤ v159 ∧ v159 ≤ 15 := by rw [← e159]; exact (by have q := hI_M 638 r4 (by decide); rw [xri_row rfl rfl] at q; exact q)
              have e160 : M1 638 r4 = v159 := ((w1_1 638 r4 (by decide) (by decide) (by decide) (by decide)).trans e159)
              have e161 : M3 638 r4 = v159 := ((w3_1 638 r4 (by decide)).trans e160)
              have e162 : M4 638 r4 = v159 := ((w4_1 638 r4 (by decide)).trans e161)
              refine jr.iald (i := r4) (x := v159) rfl (by decide) rfl (by decide) (by omega) (by omega) e162 ?_
              refine jr.aload_n rfl rfl ?_
              obtain ⟨v163, e163⟩ : ∃ z, M4 598 66 = z := ⟨_, rfl⟩
              have b163 : (-1) ≤ v163 ∧ v163 ≤ 1 := by rw [← e163]; exact hI_M4 598 66 (by decide)
              refine jr.getf (i := 66) (x := v163) (v := .int (Int32.ofInt (v163))) rfl rfl (by decide) rfl (by decide) rfl rfl e163 rfl ?_
              refine jr.iload_n rfl rfl ?_
              refine jr_v rfl rfl (Or.inl rfl) rfl rfl (by decide) rfl ⟨rfl, Nat.le_of_ble_eq_true rfl, Nat.le_of_ble_eq_true rfl⟩ rfl (jc.deep (r_after hI_M4 hH_M4 hS_M4 ht_M4 (by omega) (by omega) (by omega)  (fun r164 z164  => ?_)) (by decide))
              refine jr.istore rfl (by decide) rfl ?_
              refine jr.iload rfl rfl ?_
              refine jr.if_ne rfl rfl (by omega) (fun h223 => ?_) (fun h223 => ?_)
              · refine jr.aload_n rfl rfl ?_
                refine jr.iload_n rfl rfl ?_
                refine jr.iload_n rfl rfl ?_
                refine jr.iload_n rfl rfl ?_
                refine jr_v rfl rfl (Or.inl rfl) rfl rfl (by decide) rfl ⟨rfl, Nat.le_of_ble_eq_true rfl, Nat.le_of_ble_eq_true rfl⟩ rfl (jc.deep (r_isOut hI_M4 hH_M4 hS_M4 ht_M4 (by omega) (by omega) (by omega) (by rw [e153]; omega) (by rw [e153, e156]; omega) (by rw [e163]; omega) (fun r165 z165  => ?_)) (by decide))
                refine jr.if_eq rfl rfl (by omega) (fun h236 => ?_) (fun h236 => ?_)
                · refine jr.aload_n rfl rfl ?_
                  refine jr.getf (i := 50) (v := .ref 638) rfl rfl (by decide) rfl (by decide) rfl rfl rfl rfl ?_
                  refine jr.iload_n rfl rfl ?_
                  refine jr.iald (i := r4) (x := v159) rfl (by decide) rfl (by decide) (by omega) (by omega) e162 ?_
                  refine jr.bipush rfl (by decide) ?_
                  refine jr.icmp_lt rfl rfl (by omega) (by omega) (fun h250 => ?_) (fun h250 => ?_)
                  · refine jr.aload_n rfl rfl ?_
                    refine jr.getf (i := 50) (v := .ref 638) rfl rfl (by decide) rfl (by decide) rfl rfl rfl rfl ?_
                    refine jr.iload_n rfl rfl ?_
                    refine jr.iload rfl rfl ?_
                    refine jr.iast (i := r4) (x := r164) rfl (by decide) rfl (by decide) (by omega) (by omega) ?_
                    refine jr.aload_n rfl rfl ?_
                    refine jr.getf (i := 51) (v := .ref 639) rfl rfl (by decide) rfl (by decide) rfl rfl rfl rfl ?_
                    refine jr.iload_n rfl rfl ?_
                    refine jr.aload_n rfl rfl ?_
                    obtain ⟨v166, e166⟩ : ∃ z, M 598 2 = z := ⟨_, rfl⟩
                    have b166 : 0 ≤ v166 ∧ v166 ≤ 2000000 := by rw [← e166]; exact hI_M 598 2 (by decide)
                    have e167 : M1 598 2 = v166 := ((w1_2 2 (by decide) (by decide) (by decide) (by decide) (by decide) (by decide) (by decide) (by decide) (by decide) (by decide) (by decide)).trans e166)
                    have e168 : M3 598 2 = v166 := ((w3_2 2 (by decide) (by decide) (by decide) (by decide) (by decide) (by decide) (by decide)).trans e167)
                    have e169 : M4 598 2 = v166 := ((w4_2 2 (by decide)).trans e168)
                    refine jr.getf (i := 2) (x := v166) (v := .int (Int32.ofInt (v166))) rfl rfl (by decide) rfl (by decide) rfl rfl ((ju_c _ _ (by decide)).trans e169) rfl ?_
                    refine jr.aload_n rfl rfl ?_
                    refine jr.getf (i := 41) (v := .ref 629) rfl rfl (by decide) rfl (by decide) rfl rfl rfl rfl ?_
                    refine jr.iload_n rfl rfl ?_
                    obtain ⟨v170, e170⟩ : ∃ z, M 629 r4 = z := ⟨_, rfl⟩
                    have b170 : 0 ≤ v170 ∧ v170 ≤ 255 := by rw [← e170]; exact (by have q := hI_M 629 r4 (by decide); rw [xri_row rfl rfl] at q; exact q)
                    have e171 : M1 629 r4 = v170 := ((w1_1 629 r4 (by decide) (by decide) (by decide) (by decide)).trans e170)
                    have e172 : M3 629 r4 = v170 := ((w3_1 629 r4 (by decide)).trans e171)
                    have e173 : M4 629 r4 = v170 := ((w4_1 629 r4 (by decide)).trans e172)
                    refine jr.iald (i := r4) (x := v170) rfl (by decide) rfl (by decide) (by omega) (by omega) ((ju_c _ _ (by decide)).trans e173) ?_
                    refine jr.iload rfl rfl ?_
                    refine jr_s rfl rfl (Or.inl rfl) ⟨Nat.le_of_ble_eq_true rfl, Nat.le_of_ble_eq_true rfl⟩ rfl rfl (jc.deep (r_lives (RI.u hI_M4 (a := 638) (i := r4) (by rw [xri_row rfl rfl]; show (0 : Int) ≤ _ ∧ _ ≤ (15 : Int); omega)) (RH.o hH_M4 (by decide) (by decide) (by decide)) (RF.w hS_M4 (fun q => by rw [e173] at q; omega)) (Kp.o ht_M4 rfl) (by omega) (by omega)  (fun r174 z174  => ?_)) (by decide))
                    refine jr.iadd rfl ?_
                    refine jr.iast (i := r4) (x := (v166 + r174)) rfl (by decide) rfl (by decide) (by omega) (by omega) ?_
                    refine jr.aload_n rfl rfl ?_
                    refine jr.iload_n rfl rfl ?_
                    refine jr.iload_n rfl rfl ?_
                    refine jr_v rfl rfl (Or.inl rfl) rfl rfl (by decide) rfl ⟨rfl, Nat.le_of_ble_eq_true rfl, Nat.le_of_ble_eq_true rfl⟩ rfl (jc.deep (r_counts (RI.u (RI.u hI_M4 (a := 638) (i := r4) (by rw [xri_row rfl rfl]; show (0 : Int) ≤ _ ∧ _ ≤ (15 : Int); omega)) (a := 639) (i := r4) (by rw [xri_row rfl rfl]; show (-2147483648 : Int) ≤ _ ∧ _ ≤ (2147483647 : Int); omega)) (RH.o (RH.o hH_M4 (by decide) (by decide) (by decide)) (by decide) (by decide) (by decide)) (RF.o (RF.w hS_M4 (fun q => by rw [e173] at q; omega)) (by decide) (by decide)) (Kp.o (Kp.o ht_M4 rfl) rfl) (by omega) (by omega) (by rw [((ju_c _ _ (by decide)).trans ((ju_c _ _ (by decide)).trans e153))]; omega) (by rw [((ju_c _ _ (by decide)).trans ((ju_c _ _ (by decide)).trans e173)), ((ju_c _ _ (by decide)).trans ((ju_c _ _ (by decide)).trans e153)), ((ju_c _ _ (by decide)).trans ((ju_c _ _ (by decide)).trans e156))]; intro q; omega) (by rw [((ju_c _ _ (by decide)).trans ((ju_c _ _ (by decide)).trans e163))]; omega) (fun M175 hI_M175 hH_M175 hS_M175 ht_M175 w175_0 => ?_)) (by decide))
                    refine jr.iload_n rfl rfl ?_
                    exact jr.ireturn rfl rfl rfl (q _ _ hI_M175 hH_M175 hS_M175 ht_M175 (by omega) )
                  · refine jr.aload_n rfl rfl ?_
                    refine jr.getf (i := 66) (x := v163) (v := .int (Int32.ofInt (v163))) rfl rfl (by decide) rfl (by decide) rfl rfl e163 rfl ?_
                    refine jr.if_ne rfl rfl (by omega) (fun h257 => ?_) (fun h257 => ?_)
                    · refine jr.aload_n rfl rfl ?_
                      refine jr.getf (i := 50) (v := .ref 638) rfl rfl (by decide) rfl (by decide) rfl rfl rfl rfl ?_
                      refine jr.iload_n rfl rfl ?_
                      refine jr.iload rfl rfl ?_
                      refine jr.iast (i := r4) (x := r164) rfl (by decide) rfl (by decide) (by omega) (by omega) ?_
                      refine jr.aload_n rfl rfl ?_
                      refine jr.getf (i := 51) (v := .ref 639) rfl rfl (by decide) rfl (by decide) rfl rfl rfl rfl ?_
                      refine jr.iload_n rfl rfl ?_
                      refine jr.aload_n rfl rfl ?_
                      obtain ⟨v176, e176⟩ : ∃ z, M 598 2 = z := ⟨_, rfl⟩
                      have b176 : 0 ≤ v176 ∧ v176 ≤ 2000000 := by rw [← e176]; exact hI_M 598 2 (by decide)
                      have e177 : M1 598 2 = v176 := ((w1_2 2 (by decide) (by decide) (by decide) (by decide) (by decide) (by decide) (by decide) (by decide) (by decide) (by decide) (by decide)).trans e176)
                      have e178 : M3 598 2 = v176 := ((w3_2 2 (by decide) (by decide) (by decide) (by decide) (by decide) (by decide) (by decide)).trans e177)
                      have e179 : M4 598 2 = v176 := ((w4_2 2 (by decide)).trans e178)
                      refine jr.getf (i := 2) (x := v176) (v := .int (Int32.ofInt (v176))) rfl rfl (by decide) rfl (by decide) rfl rfl ((ju_c _ _ (by decide)).trans e179) rfl ?_
                      refine jr.aload_n rfl rfl ?_
                      refine jr.getf (i := 41) (v := .ref 629) rfl rfl (by decide) rfl (by decide) rfl rfl rfl rfl ?_
                      refine jr.iload_n rfl rfl ?_
                      obtain ⟨v180, e180⟩ : ∃ z, M 629 r4 = z := ⟨_, rfl⟩
                      have b180 : 0 ≤ v180 ∧ v180 ≤ 255 := by rw [← e180]; exact (by have q := hI_M 629 r4 (by decide); rw [xri_row rfl rfl] at q; exact q)
                      have e181 : M1 629 r4 = v180 := ((w1_1 629 r4 (by decide) (by decide) (by decide) (by decide)).trans e180)
                      have e182 : M3 629 r4 = v180 := ((w3_1 629 r4 (by decide)).trans e181)
                      have e183 : M4 629 r4 = v180 := ((w4_1 629 r4 (by decide)).trans e182)
                      refine jr.iald (i := r4) (x := v180) rfl (by decide) rfl (by decide) (by omega) (by omega) ((ju_c _ _ (by decide)).trans e183) ?_
                      refine jr.iload rfl rfl ?_
                      refine jr_s rfl rfl (Or.inl rfl) ⟨Nat.le_of_ble_eq_true rfl, Nat.le_of_ble_eq_true rfl⟩ rfl rfl (jc.deep (r_lives (RI.u hI_M4 (a := 638) (i := r4) (by rw [xri_row rfl rfl]; show (0 : Int) ≤ _ ∧ _ ≤ (15 : Int); omega)) (RH.o hH_M4 (by decide) (by decide) (by decide)) (RF.w hS_M4 (fun q => by rw [e183] at q; omega)) (Kp.o ht_M4 rfl) (by omega) (by omega)  (fun r184 z184  => ?_)) (by decide))
                      refine jr.iadd rfl ?_
                      refine jr.iast (i := r4) (x := (v176 + r184)) rfl (by decide) rfl (by decide) (by omega) (by omega) ?_
                      refine jr.aload_n rfl rfl ?_
                      refine jr.iload_n rfl rfl ?_
                      refine jr.iload_n rfl rfl ?_
                      refine jr_v rfl rfl (Or.inl rfl) rfl rfl (by decide) rfl ⟨rfl, Nat.le_of_ble_eq_true rfl, Nat.le_of_ble_eq_true rfl⟩ rfl (jc.deep (r_counts (RI.u (RI.u hI_M4 (a := 638) (i := r4) (by rw [xri_row rfl rfl]; show (0 : Int) ≤ _ ∧ _ ≤ (15 : Int); omega)) (a := 639) (i := r4) (by rw [xri_row rfl rfl]; show (-2147483648 : Int) ≤ _ ∧ _ ≤ (2147483647 : Int); omega)) (RH.o (RH.o hH_M4 (by decide) (by decide) (by decide)) (by decide) (by decide) (by decide)) (RF.o (RF.w hS_M4 (fun q => by rw [e183] at q; omega)) (by decide) (by decide)) (Kp.o (Kp.o ht_M4 rfl) rfl) (by omega) (by omega) (by rw [((ju_c _ _ (by decide)).trans ((ju_c _ _ (by decide)).trans e153))]; omega) (by rw [((ju_c _ _ (by decide)).trans ((ju_c _ _ (by decide)).trans e183)), ((ju_c _ _ (by decide)).trans ((ju_c _ _ (by decide)).trans e153)), ((ju_c _ _ (by decide)).trans ((ju_c _ _ (by decide)).trans e156))]; intro q; omega) (by rw [((ju_c _ _ (by decide)).trans ((ju_c _ _ (by decide)).trans e163))]; omega) (fun M185 hI_M185 hH_M185 hS_M185 ht_M185 w185_0 => ?_)) (by decide))
                      refine jr.iload_n rfl rfl ?_
                      exact jr.ireturn rfl rfl rfl (q _ _ hI_M185 hH_M185 hS_M185 ht_M185 (by omega) )
                    · refine jr.iload_n rfl rfl ?_
                      refine jr.if_ne rfl rfl (by omega) (fun h261 => ?_) (fun h261 => ?_)
                      · refine jr.aload_n rfl rfl ?_
                        refine jr.getf (i := 50) (v := .ref 638) rfl rfl (by decide) rfl (by decide) rfl rfl rfl rfl ?_
                        refine jr.iload_n rfl rfl ?_
                        refine jr.iload rfl rfl ?_
                        refine jr.iast (i := r4) (x := r164) rfl (by decide) rfl (by decide) (by omega) (by omega) ?_
                        refine jr.aload_n rfl rfl ?_
                        refine jr.getf (i := 51) (v := .ref 639) rfl rfl (by decide) rfl (by decide) rfl rfl rfl rfl ?_
                        refine jr.iload_n rfl rfl ?_
                        refine jr.aload_n rfl rfl ?_
                        obtain ⟨v186, e186⟩ : ∃ z, M 598 2 = z := ⟨_, rfl⟩
                        have b186 : 0 ≤ v186 ∧ v186 ≤ 2000000 := by rw [← e186]; exact hI_M 598 2 (by decide)
                        have e187 : M1 598 2 = v186 := ((w1_2 2 (by decide) (by decide) (by decide) (by decide) (by decide) (by decide) (by decide) (by decide) (by decide) (by decide) (by decide)).trans e186)
                        have e188 : M3 598 2 = v186 := ((w3_2 2 (by decide) (by decide) (by decide) (by decide) (by decide) (by decide) (by decide)).trans e187)
                        have e189 : M4 598 2 = v186 := ((w4_2 2 (by decide)).trans e188)
                        refine jr.getf (i := 2) (x := v186) (v := .int (Int32.ofInt (v186))) rfl rfl (by decide) rfl (by decide) rfl rfl ((ju_c _ _ (by decide)).trans e189) rfl ?_
                        refine jr.aload_n rfl rfl ?_
                        refine jr.getf (i := 41) (v := .ref 629) rfl rfl (by decide) rfl (by decide) rfl rfl rfl rfl ?_
                        refine jr.iload_n rfl rfl ?_
                        obtain ⟨v190, e190⟩ : ∃ z, M 629 r4 = z := ⟨_, rfl⟩
                        have b190 : 0 ≤ v190 ∧ v190 ≤ 255 := by rw [← e190]; exact (by have q := hI_M 629 r4 (by decide); rw [xri_row rfl rfl] at q; exact q)
                        have e191 : M1 629 r4 = v190 := ((w1_1 629 r4 (by decide) (by decide) (by decide) (by decide)).trans e190)
                        have e192 : M3 629 r4 = v190 := ((w3_1 629 r4 (by decide)).trans e191)
                        have e193 : M4 629 r4 = v190 := ((w4_1 629 r4 (by decide)).trans e192)
                        refine jr.iald (i := r4) (x := v190) rfl (by decide) rfl (by decide) (by omega) (by omega) ((ju_c _ _ (by decide)).trans e193) ?_
                        refine jr.iload rfl rfl ?_
                        refine jr_s rfl rfl (Or.inl rfl) ⟨Nat.le_of_ble_eq_true rfl, Nat.le_of_ble_eq_true rfl⟩ rfl rfl (jc.deep (r_lives (RI.u hI_M4 (a := 638) (i := r4) (by rw [xri_row rfl rfl]; show (0 : Int) ≤ _ ∧ _ ≤ (15 : Int); omega)) (RH.o hH_M4 (by decide) (by decide) (by decide)) (RF.w hS_M4 (fun q => by rw [e193] at q; omega)) (Kp.o ht_M4 rfl) (by omega) (by omega)  (fun r194 z194  => ?_)) (by decide))
                        refine jr.iadd rfl ?_
                        refine jr.iast (i := r4) (x := (v186 + r194)) rfl (by decide) rfl (by decide) (by omega) (by omega) ?_
                        refine jr.aload_n rfl rfl ?_
                        refine jr.iload_n rfl rfl ?_
                        refine jr.iload_n rfl rfl ?_
                        refine jr_v rfl rfl (Or.inl rfl) rfl rfl (by decide) rfl ⟨rfl, Nat.le_of_ble_eq_true rfl, Nat.le_of_ble_eq_true rfl⟩ rfl (jc.deep (r_counts (RI.u (RI.u hI_M4 (a := 638) (i := r4) (by rw [xri_row rfl rfl]; show (0 : Int) ≤ _ ∧ _ ≤ (15 : Int); omega)) (a := 639) (i := r4) (by rw [xri_row rfl rfl]; show (-2147483648 : Int) ≤ _ ∧ _ ≤ (2147483647 : Int); omega)) (RH.o (RH.o hH_M4 (by decide) (by decide) (by decide)) (by decide) (by decide) (by decide)) (RF.o (RF.w hS_M4 (fun q => by rw [e193] at q; omega)) (by decide) (by decide)) (Kp.o (Kp.o ht_M4 rfl) rfl) (by omega) (by omega) (by rw [((ju_c _ _ (by decide)).trans ((ju_c _ _ (by decide)).trans e153))]; omega) (by rw [((ju_c _ _ (by decide)).trans ((ju_c _ _ (by decide)).trans e193)), ((ju_c _ _ (by decide)).trans ((ju_c _ _ (by decide)).trans e153)), ((ju_c _ _ (by decide)).trans ((ju_c _ _ (by decide)).trans e156))]; intro q; omega) (by rw [((ju_c _ _ (by decide)).trans ((ju_c _ _ (by decide)).trans e163))]; omega) (fun M195 hI_M195 hH_M195 hS_M195 ht_M195 w195_0 => ?_)) (by decide))
                        refine jr.iload_n rfl rfl ?_
                        exact jr.ireturn rfl rfl rfl (q _ _ hI_M195 hH_M195 hS_M195 ht_M195 (by omega) )
                      · refine jr.aload_n rfl rfl ?_
                        refine jr.iload_n rfl rfl ?_
                        refine jr_v rfl rfl (Or.inl rfl) rfl rfl (by decide) rfl ⟨rfl, Nat.le_of_ble_eq_true rfl, Nat.le_of_ble_eq_true rfl⟩ rfl (jc.deep (r_forget hI_M4 hH_M4 ht_M4 (by omega)  (fun M196 hI_M196 hH_M196 ht_M196 w196_0 => ?_)) (by decide))
                        refine jr.goto rfl rfl ?_
                        refine jr.aload_n rfl rfl ?_
                        refine jr.getf (i := 50) (v := .ref 638) rfl rfl (by decide) rfl (by decide) rfl rfl rfl rfl ?_
                        refine jr.iload_n rfl rfl ?_
                        refine jr.iload rfl rfl ?_
                        refine jr.iast (i := r4) (x := r164) rfl (by decide) rfl (by decide) (by omega) (by omega) ?_
                        refine jr.aload_n rfl rfl ?_
                        refine jr.getf (i := 51) (v := .ref 639) rfl rfl (by decide) rfl (by decide) rfl rfl rfl rfl ?_
                        refine jr.iload_n rfl rfl ?_
                        refine jr.aload_n rfl rfl ?_
                        obtain ⟨v197, e197⟩ : ∃ z, M 598 2 = z := ⟨_, rfl⟩
                        have b197 : 0 ≤ v197 ∧ v197 ≤ 2000000 := by rw [← e197]; exact hI_M 598 2 (by decide)
                        have e198 : M1 598 2 = v197 := ((w1_2 2 (by decide) (by decide) (by decide) (by decide) (by decide) (by decide) (by decide) (by decide) (by decide) (by decide) (by decide)).trans e197)
                        have e199 : M3 598 2 = v197 := ((w3_2 2 (by decide) (by decide) (by decide) (by decide) (by decide) (by decide) (by decide)).trans e198)
                        have e200 : M4 598 2 = v197 := ((w4_2 2 (by decide)).trans e199)
                        have e201 : M196 598 2 = v197 := ((w196_0 598 2 (by decide) (by decide) (by decide) (by decide) (by decide) (by decide)).trans e200)
                        refine jr.getf (i := 2) (x := v197) (v := .int (Int32.ofInt (v197))) rfl rfl (by decide) rfl (by decide) rfl rfl ((ju_c _ _ (by decide)).trans e201) rfl ?_
                        refine jr.aload_n rfl rfl ?_
                        refine jr.getf (i := 41) (v := .ref 629) rfl rfl (by decide) rfl (by decide) rfl rfl rfl rfl ?_
                        refine jr.iload_n rfl rfl ?_
                        obtain ⟨v202, e202⟩ : ∃ z, M 629 r4 = z := ⟨_, rfl⟩
                        have b202 : 0 ≤ v202 ∧ v202 ≤ 255 := by rw [← e202]; exact (by have q := hI_M 629 r4 (by decide); rw [xri_row rfl rfl] at q; exact q)
                        have e203 : M1 629 r4 = v202 := ((w1_1 629 r4 (by decide) (by decide) (by decide) (by decide)).trans e202)
                        have e204 : M3 629 r4 = v202 := ((w3_1 629 r4 (by decide)).trans e203)
                        have e205 : M4 629 r4 = v202 := ((w4_1 629 r4 (by decide)).trans e204)
                        have e206 : M196 629 r4 = v202 := ((w196_0 629 r4 (by decide) (by decide) (by decide) (by decide) (by decide) (by decide)).trans e205)
                        refine jr.iald (i := r4) (x := v202) rfl (by decide) rfl (by decide) (by omega) (by omega) ((ju_c _ _ (by decide)).trans e206) ?_
                        refine jr.iload rfl rfl ?_
                        refine jr_s rfl rfl (Or.inl rfl) ⟨Nat.le_of_ble_eq_true rfl, Nat.le_of_ble_eq_true rfl⟩ rfl rfl (jc.deep (r_lives (RI.u hI_M196 (a := 638) (i := r4) (by rw [xri_row rfl rfl]; show (0 : Int) ≤ _ ∧ _ ≤ (15 : Int); omega)) (RH.o hH_M196 (by decide) (by decide) (by decide)) (RF.w (RF.fr hS_M4 (fun f => w196_0 629 f (by decide) (by decide) (by decide) (by decide) (by decide) (by decide)) (fun f => w196_0 638 f (by decide) (by decide) (by decide) (by decide) (by decide) (by decide))) (fun q => by rw [e206] at q; omega)) (Kp.o ht_M196 rfl) (by omega) (by omega)  (fun r207 z207  => ?_)) (by decide))
                        refine jr.iadd rfl ?_
                        refine jr.iast (i := r4) (x := (v197 + r207)) rfl (by decide) rfl (by decide) (by omega) (by omega) ?_
                        refine jr.aload_n rfl rfl ?_
                        refine jr.iload_n rfl rfl ?_
                        refine jr.iload_n rfl rfl ?_
                        have e209 : M196 598 65 = ea := ((w196_0 598 65 (by decide) (by decide) (by decide) (by decide) (by decide) (by decide)).trans e153)
                        have e210 : M196 604 ea = v154 := ((w196_0 604 ea (by decide) (by decide) (by decide) (by decide) (by decide) (by decide)).trans e156)
                        have e211 : M196 598 66 = v163 := ((w196_0 598 66 (by decide) (by decide) (by decide) (by decide) (by decide) (by decide)).trans e163)
                        refine jr_v rfl rfl (Or.inl rfl) rfl rfl (by decide) rfl ⟨rfl, Nat.le_of_ble_eq_true rfl, Nat.le_of_ble_eq_true rfl⟩ rfl (jc.deep (r_counts (RI.u (RI.u hI_M196 (a := 638) (i := r4) (by rw [xri_row rfl rfl]; show (0 : Int) ≤ _ ∧ _ ≤ (15 : Int); omega)) (a := 639) (i := r4) (by rw [xri_row rfl rfl]; show (-2147483648 : Int) ≤ _ ∧ _ ≤ (2147483647 : Int); omega)) (RH.o (RH.o hH_M196 (by decide) (by decide) (by decide)) (by decide) (by decide) (by decide)) (RF.o (RF.w (RF.fr hS_M4 (fun f => w196_0 629 f (by decide) (by decide) (by decide) (by decide) (by decide) (by decide)) (fun f => w196_0 638 f (by decide) (by decide) (by decide) (by decide) (by decide) (by decide))) (fun q => by rw [e206] at q; omega)) (by decide) (by decide)) (Kp.o (Kp.o ht_M196 rfl) rfl) (by omega) (by omega) (by rw [((ju_c _ _ (by decide)).trans ((ju_c _ _ (by decide)).trans e209))]; omega) (by rw [((ju_c _ _ (by decide)).trans ((ju_c _ _ (by decide)).trans e206)), ((ju_c _ _ (by decide)).trans ((ju_c _ _ (by decide)).trans e209)), ((ju_c _ _ (by decide)).trans ((ju_c _ _ (by decide)).trans e210))]; intro q; omega) (by rw [((ju_c _ _ (by decide)).trans ((ju_c _ _ (by decide)).trans e211))]; omega) (fun M208 hI_M208 hH_M208 hS_M208 ht_M208 w208_0 => ?_)) (by decide))
                        refine jr.iload_n rfl rfl ?_
                        exact jr.ireturn rfl rfl rfl (q _ _ hI_M208 hH_M208 hS_M208 ht_M208 (by omega) )
                · refine jr.bipush rfl (by decide) ?_
                  exact jr.ireturn rfl rfl rfl (q _ _ hI_M4 hH_M4 hS_M4 ht_M4 (by omega) )
              · refine jr.bipush rfl (by decide) ?_
                exact jr.ireturn rfl rfl rfl (q _ _ hI_M4 hH_M4 hS_M4 ht_M4 (by omega) )
          · refine jr.aload_n rfl rfl ?_
            refine jr.getf (i := 60) (x := v5) (v := .int (Int32.ofInt (v5))) rfl rfl (by decide) rfl (by decide) rfl rfl e6 rfl ?_
            refine jr.bipush rfl (by decide) ?_
            refine jr.icmp_ne rfl rfl (by omega) (by omega) (fun h100 => ?_) (fun h100 => ?_)
            · exact absurd h100 (by omega)
            · refine jr.iload_n rfl rfl ?_
              refine jr.if_ne rfl rfl (by omega) (fun h104 => ?_) (fun h104 => ?_)
              · refine jr.iconst rfl ?_
                refine jr.goto rfl rfl ?_
                refine jr.istore rfl (by decide) rfl ?_
                refine jr.iload rfl rfl ?_
                refine jr.if_ne rfl rfl (by omega) (fun h => absurd h (by decide)) (fun _ => ?_)
                refine jr.bipush rfl (by decide) ?_
                exact jr.ireturn rfl rfl rfl (q _ _ hI_M4 hH_M4 hS_M4 ht_M4 (by omega) )
              · refine jr.iconst rfl ?_
                refine jr.goto rfl rfl ?_
                refine jr.istore rfl (by decide) rfl ?_
                refine jr.iload rfl rfl ?_
                refine jr.if_ne rfl rfl (by omega) (fun _ => ?_) (fun h => absurd (by decide) h)
                refine jr.aload_n rfl rfl ?_
                refine jr_v rfl rfl (Or.inl rfl) rfl rfl (by decide) rfl ⟨rfl, Nat.le_of_ble_eq_true rfl, Nat.le_of_ble_eq_true rfl⟩ rfl (jc.deep (r_beginFlow hI_M4 hH_M4 hS_M4 ht_M4   (fun r212 M212 hI_M212 hH_M212 ht_M212 z212 w212_0 w212_1 w212_2 => ?_)) (by decide))
                refine jr.istore_n rfl (by decide) rfl ?_
                refine jr.iload_n rfl rfl ?_
                refine jr.iconst rfl ?_
                refine jr.icmp_ne rfl rfl (by omega) (by omega) (fun h165 => ?_) (fun h165 => ?_)
                · refine jr.aload_n rfl rfl ?_
                  refine jr.iconst rfl ?_
                  refine jr.putf (i := 66) (x := 0) rfl rfl (by decide) rfl (by decide) rfl rfl rfl rfl rfl ?_
                  refine jr.aload_n rfl rfl ?_
                  have e213 : M212 598 60 = v5 := ((w212_2 598 60 (by decide) (by decide) (by decide) (by decide) (by decide) (by decide) (by decide) (by decide) (by decide) (by decide) (by decide) (by decide)).trans e6)
                  refine jr.getf (i := 60) (x := v5) (v := .int (Int32.ofInt (v5))) rfl rfl (by decide) rfl (by decide) rfl rfl ((ju_i _ _ (by decide)).trans e213) rfl ?_
                  refine jr.bipush rfl (by decide) ?_
                  refine jr.icmp_ne rfl rfl (by omega) (by omega) (fun h182 => ?_) (fun h182 => ?_)
                  · exact absurd h182 (by omega)
                  · refine jr.iconst rfl ?_
                    refine jr.goto rfl rfl ?_
                    refine jr.istore rfl (by decide) rfl ?_
                    refine jr.goto rfl rfl ?_
                    refine jr.aload_n rfl rfl ?_
                    refine jr.getf (i := 50) (v := .ref 638) rfl rfl (by decide) rfl (by decide) rfl rfl rfl rfl ?_
                    refine jr.iload_n rfl rfl ?_
                    refine jr.iload rfl rfl ?_
                    refine jr.iast (i := r212) (x := 1) rfl (by decide) rfl (by decide) (by omega) (by omega) ?_
                    refine jr.aload_n rfl rfl ?_
                    refine jr.getf (i := 51) (v := .ref 639) rfl rfl (by decide) rfl (by decide) rfl rfl rfl rfl ?_
                    refine jr.iload_n rfl rfl ?_
                    refine jr.aload_n rfl rfl ?_
                    obtain ⟨v214, e214⟩ : ∃ z, M 598 2 = z := ⟨_, rfl⟩
                    have b214 : 0 ≤ v214 ∧ v214 ≤ 2000000 := by rw [← e214]; exact hI_M 598 2 (by decide)
                    have e215 : M1 598 2 = v214 := ((w1_2 2 (by decide) (by decide) (by decide) (by decide) (by decide) (by decide) (by decide) (by decide) (by decide) (by decide) (by decide)).trans e214)
                    have e216 : M3 598 2 = v214 := ((w3_2 2 (by decide) (by decide) (by decide) (by decide) (by decide) (by decide) (by decide)).trans e215)
                    have e217 : M4 598 2 = v214 := ((w4_2 2 (by decide)).trans e216)
                    have e218 : M212 598 2 = v214 := ((w212_2 598 2 (by decide) (by decide) (by decide) (by decide) (by decide) (by decide) (by decide) (by decide) (by decide) (by decide) (by decide) (by decide)).trans e217)
                    refine jr.getf (i := 2) (x := v214) (v := .int (Int32.ofInt (v214))) rfl rfl (by decide) rfl (by decide) rfl rfl ((ju_c _ _ (by decide)).trans ((ju_i _ _ (by decide)).trans e218)) rfl ?_
                    refine jr.aload_n rfl rfl ?_
                    refine jr.getf (i := 41) (v := .ref 629) rfl rfl (by decide) rfl (by decide) rfl rfl rfl rfl ?_
                    refine jr.iload_n rfl rfl ?_
                    obtain ⟨v219, e219⟩ : ∃ z, M212 629 r212 = z := ⟨_, rfl⟩
                    have b219 : 0 ≤ v219 ∧ v219 ≤ 255 := by rw [← e219]; exact (by have q := hI_M212 629 r212 (by decide); rw [xri_row rfl rfl] at q; exact q)
                    refine jr.iald (i := r212) (x := v219) rfl (by decide) rfl (by decide) (by omega) (by omega) ((ju_c _ _ (by decide)).trans ((ju_c _ _ (by decide)).trans e219)) ?_
                    refine jr.iload rfl rfl ?_
                    refine jr_s rfl rfl (Or.inl rfl) ⟨Nat.le_of_ble_eq_true rfl, Nat.le_of_ble_eq_true rfl⟩ rfl rfl (jc.deep (r_lives (RI.u (RI.u hI_M212 (a := 598) (i := 66) (show (-1 : Int) ≤ _ ∧ _ ≤ (1 : Int) from by omega)) (a := 638) (i := r212) (by rw [xri_row rfl rfl]; show (0 : Int) ≤ _ ∧ _ ≤ (15 : Int); omega)) (RH.o (RH.o hH_M212 (by decide) (by decide) (by decide)) (by decide) (by decide) (by decide)) (RFx.w (RFx.o w212_0 (by decide) (by decide)) (fun q => by rw [((ju_c _ _ (by decide)).trans e219)] at q; omega)) (Kp.o (Kp.o ht_M212 rfl) rfl) (by omega) (by omega)  (fun r220 z220  => ?_)) (by decide))
                    refine jr.iadd rfl ?_
                    refine jr.iast (i := r212) (x := (v214 + r220)) rfl (by decide) rfl (by decide) (by omega) (by omega) ?_
                    refine jr.aload_n rfl rfl ?_
                    refine jr.iload_n rfl rfl ?_
                    refine jr.iload_n rfl rfl ?_
                    have e222 : M212 598 65 = ea := ((w212_2 598 65 (by decide) (by decide) (by decide) (by decide) (by decide) (by decide) (by decide) (by decide) (by decide) (by decide) (by decide) (by decide)).trans e153)
                    have e223 : M212 604 ea = v154 := ((w212_2 604 ea (by decide) (by decide) (by decide) (by decide) (by decide) (by decide) (by decide) (by decide) (by decide) (by decide) (by decide) (by decide)).trans e156)
                    refine jr_v rfl rfl (Or.inl rfl) rfl rfl (by decide) rfl ⟨rfl, Nat.le_of_ble_eq_true rfl, Nat.le_of_ble_eq_true rfl⟩ rfl (jc.deep (r_counts (RI.u (RI.u (RI.u hI_M212 (a := 598) (i := 66) (show (-1 : Int) ≤ _ ∧ _ ≤ (1 : Int) from by omega)) (a := 638) (i := r212) (by rw [xri_row rfl rfl]; show (0 : Int) ≤ _ ∧ _ ≤ (15 : Int); omega)) (a := 639) (i := r212) (by rw [xri_row rfl rfl]; show (-2147483648 : Int) ≤ _ ∧ _ ≤ (2147483647 : Int); omega)) (RH.o (RH.o (RH.o hH_M212 (by decide) (by decide) (by decide)) (by decide) (by decide) (by decide)) (by decide) (by decide) (by decide)) (RF.o (RFx.w (RFx.o w212_0 (by decide) (by decide)) (fun q => by rw [((ju_c _ _ (by decide)).trans e219)] at q; omega)) (by decide) (by decide)) (Kp.o (Kp.o (Kp.o ht_M212 rfl) rfl) rfl) (by omega) (by omega) (by rw [((ju_c _ _ (by decide)).trans ((ju_c _ _ (by decide)).trans ((ju_i _ _ (by decide)).trans e222)))]; omega) (by rw [((ju_c _ _ (by decide)).trans ((ju_c _ _ (by decide)).trans ((ju_c _ _ (by decide)).trans e219))), ((ju_c _ _ (by decide)).trans ((ju_c _ _ (by decide)).trans ((ju_i _ _ (by decide)).trans e222))), ((ju_c _ _ (by decide)).trans ((ju_c _ _ (by decide)).trans ((ju_c _ _ (by decide)).trans e223)))]; intro q; omega) (by rw [((ju_c _ _ (by decide)).trans ((ju_c _ _ (by decide)).trans (ju_same _ _ _ _)))]; omega) (fun M221 hI_M221 hH_M221 hS_M221 ht_M221 w221_0 => ?_)) (by decide))
                    refine jr.iload_n rfl rfl ?_
                    exact jr.ireturn rfl rfl rfl (q _ _ hI_M221 hH_M221 hS_M221 ht_M221 (by omega) )
                · refine jr.bipush rfl (by decide) ?_
                  exact jr.ireturn rfl rfl rfl (q _ _ hI_M212 hH_M212 (RFx.none w212_0 (by omega)) ht_M212 (by omega) )
      · refine jr.aload_n rfl rfl ?_
        refine jr_v rfl rfl (Or.inl rfl) rfl rfl (by decide) rfl ⟨rfl, Nat.le_of_ble_eq_true rfl, Nat.le_of_ble_eq_true rfl⟩ rfl (jc.deep (r_flowByEnds hI_M3 hH_M3 hS_M3 ht_M3   (fun r224 M224 hI_M224 hH_M224 hS_M224 ht_M224 z224 w224_0 w224_1 w224_2 => ?_)) (by decide))
        refine jr.istore_n rfl (by decide) rfl ?_
        refine jr.iload_n rfl rfl ?_
        refine jr.iconst rfl ?_
        refine jr.icmp_ne rfl rfl (by omega) (by omega) (fun h37 => ?_) (fun h37 => ?_)
        · refine jr.iload_n rfl rfl ?_
          exact jr.ireturn rfl rfl rfl (q _ _ hI_M224 hH_M224 hS_M224 ht_M224 (by omega) )
        · refine jr.bipush rfl (by decide) ?_
          refine jr.goto rfl rfl ?_
          exact jr.ireturn rfl rfl rfl (q _ _ hI_M224 hH_M224 hS_M224 ht_M224 (by omega) )
    · refine jr.bipush rfl (by decide) ?_
      exact jr.ireturn rfl rfl rfl (q _ _ hI_M1 hH_M1 hS_M1 ht_M1 (by omega) )
  · refine jr.if_ne rfl rfl (by omega) (fun h => absurd h (by decide)) (fun _ => ?_)
    refine jr.bipush rfl (by decide) ?_
    exact jr.ireturn rfl rfl rfl (q _ _ hI_M hH_M hS_M ht_M (by omega) )
