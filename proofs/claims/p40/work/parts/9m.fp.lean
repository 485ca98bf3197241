section
/-! ===== the reference: isRelated ===== -/
theorem v7_0 {M : jm} {f : Int → Int} {N C e a r x : Int} (h : HT M f N C) (hx : rf M x = f) (he : 0 ≤ e ∧ e < C) (hk : M 603 e = 7) (ha : M 604 e = a) (hr : r = M 601 (400 * x + a)) (h0 : 0 ≤ r ∧ r ≤ 255) : vA f N C e 0 = r := by
  have hh := HT.f h he
  rw [vA_k he (show hX f N e = 7 by omega) (by decide +kernel), vof_7_0, nbs_1, Int.add_zero, ← hh.2.1, ha, ← hx, rf_a, ← hr]
  omega
theorem qf_n {M : jm} {f : Int → Int} {N C e : Int} (h : HT M f N C) (he : 0 ≤ e ∧ e < C) (hn : M 603 e ≠ 7 ∨ (vA f N C e 0 ≠ 3 ∧ vA f N C e 0 ≠ 11) ∨ C ≤ e + 2 ∨ (M 603 (e + 1) ≠ 2 ∧ M 603 (e + 1) ≠ 3) ∨ (M 603 (e + 2) < 7 ∨ 9 < M 603 (e + 2))) : ¬ qfF f N C e := by
  intro q
  obtain ⟨q1, q2, q3, q4⟩ := q
  have hh := HT.f h he
  rw [kA_i he] at q1
  have z2 := kA_in (f := f) (N := N) (C := C) (x := e + 2) (by omega)
  have z1 : 0 ≤ e + 1 ∧ e + 1 < C := by omega
  have h1 := HT.f h z1
  have h2 := HT.f h z2
  rw [kA_i z1] at q3
  rw [kA_i z2] at q4
  omega
theorem qf_y {M : jm} {f : Int → Int} {N C e : Int} (h : HT M f N C) (he : 0 ≤ e ∧ e + 2 < C) (h1 : M 603 e = 7) (h2 : vA f N C e 0 = 3 ∨ vA f N C e 0 = 11) (h3 : M 603 (e + 1) = 2 ∨ M 603 (e + 1) = 3) (h4 : 7 ≤ M 603 (e + 2) ∧ M 603 (e + 2) ≤ 9) : qfF f N C e := by
  have a0 := HT.f h (show 0 ≤ e ∧ e < C by omega)
  have a1 := HT.f h (show 0 ≤ e + 1 ∧ e + 1 < C by omega)
  have a2 := HT.f h (show 0 ≤ e + 2 ∧ e + 2 < C by omega)
  refine ⟨?_, h2, ?_, ?_⟩
  · rw [kA_i (show 0 ≤ e ∧ e < C by omega)]; omega
  · rw [kA_i (show 0 ≤ e + 1 ∧ e + 1 < C by omega)]; omega
  · rw [kA_i (show 0 ≤ e + 2 ∧ e + 2 < C by omega)]; omega
theorem r_isRelated_x {A : Nat → Option (Nat × (Nat → Int32))} {Q : Option Value → jm → Prop} {f : Int → Int} {N C : Int} {M : jm} (hI_M : RI M) (hH_M : RH M) (hS_M : RF M) {x : Int} (h_x : 0 ≤ x ∧ x ≤ 23) (p0 : RE M) (p1 : HT M f N C) (p2 : rf M x = f) (q : ∀ (r : Int) (M' : jm), RI M' → RH M' → RF M' → 0 ≤ r ∧ r ≤ 1 → RE M' → ((r = 0 ∧ ¬ qfF f N C (M 598 65) ∧ M' = M) ∨ (r = 1 ∧ qfF f N C (M 598 65) ∧ EN6 M' f N C (M 598 65 + 1) (M 598 65 + 2))) → (∀ (a : Nat) (i : Int), a ≠ 598 → M' a i = M a i) → (∀ (i : Int), i ≠ 59 → i ≠ 60 → i ≠ 61 → i ≠ 62 → i ≠ 63 → i ≠ 64 → i ≠ 65 → M' 598 i = M 598 i) → Q (some (.int (Int32.ofInt r))) M') : jc A 7 305 [.ref (598), .int (Int32.ofInt (x))] M Q := by
  have p0' := p0
  obtain ⟨re1, re2, re3, re4, re5, tt, rt0, rt1, rt2⟩ := p0
  obtain ⟨ea, hea⟩ : ∃ z, M 598 65 = z := ⟨_, rfl⟩
  rw [hea] at re1 re2 re3 re4
  have rc := RH.car hH_M ea
  have b65 : M 598 6 ≤ 12 := (hI_M 598 6 (Nat.le_of_ble_eq_true rfl)).2
  have rt := RH.two hH_M (ea + 1)
  have rd := RH.car hH_M (ea + 2)
  have rc1 : M 604 ea ≤ 392 := rc.1 re3
  have re3b : 7 ≤ M 603 ea ∧ M 603 ea ≤ 9 := by clear rc rt rd re5 re4; omega
  have rt2b : 2 ≤ M 603 tt ∧ M 603 tt ≤ 3 := by clear rc rt rd re5 re4 re3; omega
  clear rc re3 rt2
  have hC6 := p1.1
  refine jc_of (m := xm_305) rfl (Nat.le_of_ble_eq_true rfl) rfl ?_
  refine jr.aload_n rfl rfl ?_
  refine jr.getf (i := 65) (x := ea) (v := .int (Int32.ofInt (ea))) rfl rfl (nlt rfl) rfl (nlt rfl) rfl rfl hea rfl ?_
  refine jr.istore_n (ls' := [_, _, _]) rfl (nlt rfl) rfl ?_
  refine jr.aload_n rfl rfl ?_
  refine jr.getf (i := 7) (v := .ref 603) rfl rfl (nlt rfl) rfl (nlt rfl) rfl rfl rfl rfl ?_
  refine jr.iload_n rfl rfl ?_
  obtain ⟨v1, e1⟩ : ∃ z, M 603 ea = z := ⟨_, rfl⟩
  have b1 : 0 ≤ v1 ∧ v1 ≤ 11 := by rw [← e1]; exact (by have q := hI_M 603 ea (Nat.le_of_ble_eq_true rfl); rw [xri_row rfl rfl] at q; exact q)
  refine jr.iald (i := ea) (x := v1) rfl (nlt rfl) rfl (Nat.le_of_ble_eq_true rfl) (by omega) (by omega) e1 ?_
  refine jr.bipush rfl (jbp _ (nlt rfl)) ?_
  refine jr.icmp_ne rfl rfl (by first | (refine rgb (by assumption) ?_; exact rfl) | omega) (rgl rfl) (fun h13 => ?_) (fun h13 => ?_)
  · refine jr.iconst rfl ?_
    exact jr.ireturn rfl rfl rfl (q _ _ hI_M hH_M hS_M  (by first | exact rgq rfl | omega) p0' (Or.inl ⟨rfl, (by rw [hea]; have h6 := p1.1; first | (exact qf_n p1 (by omega) (Or.inl (by omega))) | (exact qf_n p1 (by omega) (by omega))), rfl⟩) (fun a i f598 => rfl) (fun i g59 g60 g61 g62 g63 g64 g65 => rfl))
  · refine jr.aload_n rfl rfl ?_
    refine jr.iload_n rfl rfl ?_
    refine jr.aload_n rfl rfl ?_
    refine jr.getf (i := 8) (v := .ref 604) rfl rfl (nlt rfl) rfl (nlt rfl) rfl rfl rfl rfl ?_
    refine jr.iload_n rfl rfl ?_
    obtain ⟨v2, e2⟩ : ∃ z, M 604 ea = z := ⟨_, rfl⟩
    have b2 : 0 ≤ v2 ∧ v2 ≤ 400 := by rw [← e2]; exact (by have q := hI_M 604 ea (Nat.le_of_ble_eq_true rfl); rw [xri_row rfl rfl] at q; exact q)
    refine jr.iald (i := ea) (x := v2) rfl (nlt rfl) rfl (Nat.le_of_ble_eq_true rfl) (by omega) (by omega) e2 ?_
    refine jr_v rfl rfl (Or.inl rfl) rfl rfl (nlt rfl) rfl ⟨rfl, Nat.le_of_ble_eq_true rfl, Nat.le_of_ble_eq_true rfl⟩ rfl (jc.deep (r_one hI_M hH_M hS_M (Kp.rfl _) (by omega) (by omega)  (fun r3 z3 w3_0 => ?_)) (Nat.le_of_ble_eq_true rfl))
    refine jr.iconst rfl ?_
    refine jr.icmp_eq rfl rfl (by first | (refine rgb (by assumption) ?_; exact rfl) | omega) (rgl rfl) (fun h28 => ?_) (fun h28 => ?_)
    · refine jr.iload_n rfl rfl ?_
      refine jr.iconst rfl ?_
      refine jr.iadd rfl ?_
      refine jr.aload_n rfl rfl ?_
      obtain ⟨v4, e4⟩ : ∃ z, M 598 6 = z := ⟨_, rfl⟩
      have b4 : 0 ≤ v4 ∧ v4 ≤ 12 := by rw [← e4]; exact hI_M 598 6 (Nat.le_of_ble_eq_true rfl)
      refine jr.getf (i := 6) (x := v4) (v := .int (Int32.ofInt (v4))) rfl rfl (nlt rfl) rfl (nlt rfl) rfl rfl e4 rfl ?_
      refine jr.icmp_ge rfl rfl (by first | (refine rgb (by assumption) ?_; exact rfl) | omega) (by first | (refine rgb (by assumption) ?_; exact rfl) | omega) (fun h56 => ?_) (fun h56 => ?_)
      · refine jr.iconst rfl ?_
        refine jr.istore_n (ls' := [_, _, _, _]) rfl (nlt rfl) rfl ?_
        refine jr.iload_n rfl rfl ?_
        refine jr.if_eq rfl rfl (by first | exact rgl rfl | omega) (fun _ => ?_) (fun h => absurd (by decide) h)
        refine jr.iload_n rfl rfl ?_
        exact jr.ireturn rfl rfl rfl (q _ _ hI_M hH_M hS_M  (by omega) p0' (Or.inl ⟨rfl, (by rw [hea]; have h6 := p1.1; first | (exact qf_n p1 (by omega) (Or.inl (by omega))) | (have vv := v7_0 p1 p2 (e := ea) (by omega) (by omega) e2 w3_0 (by omega); exact qf_n p1 (by omega) (by omega)) | (exact qf_n p1 (by omega) (by omega))), rfl⟩) (fun a i f598 => rfl) (fun i g59 g60 g61 g62 g63 g64 g65 => rfl))
      · refine jr.aload_n rfl rfl ?_
        refine jr.getf (i := 7) (v := .ref 603) rfl rfl (nlt rfl) rfl (nlt rfl) rfl rfl rfl rfl ?_
        refine jr.iload_n rfl rfl ?_
        refine jr.iconst rfl ?_
        refine jr.iadd rfl ?_
        obtain ⟨v5, e5⟩ : ∃ z, M 603 (ea + 1) = z := ⟨_, rfl⟩
        have b5 : 0 ≤ v5 ∧ v5 ≤ 11 := by rw [← e5]; exact (by have q := hI_M 603 (ea + 1) (Nat.le_of_ble_eq_true rfl); rw [xri_row rfl rfl] at q; exact q)
        refine jr.iald (i := (ea + 1)) (x := v5) rfl (nlt rfl) rfl (Nat.le_of_ble_eq_true rfl) (by omega) (by omega) e5 ?_
        refine jr.iconst rfl ?_
        refine jr.icmp_eq rfl rfl (by first | (refine rgb (by assumption) ?_; exact rfl) | omega) (rgl rfl) (fun h68 => ?_) (fun h68 => ?_)
        · refine jr.aload_n rfl rfl ?_
          refine jr.getf (i := 7) (v := .ref 603) rfl rfl (nlt rfl) rfl (nlt rfl) rfl rfl rfl rfl ?_
          refine jr.iload_n rfl rfl ?_
          refine jr.iconst rfl ?_
          refine jr.iadd rfl ?_
          obtain ⟨v6, e6⟩ : ∃ z, M 603 (ea + 2) = z := ⟨_, rfl⟩
          have b6 : 0 ≤ v6 ∧ v6 ≤ 11 := by rw [← e6]; exact (by have q := hI_M 603 (ea + 2) (Nat.le_of_ble_eq_true rfl); rw [xri_row rfl rfl] at q; exact q)
          refine jr.iald (i := (ea + 2)) (x := v6) rfl (nlt rfl) rfl (Nat.le_of_ble_eq_true rfl) (by omega) (by omega) e6 ?_
          refine jr_s rfl rfl (Or.inl rfl) ⟨Nat.le_of_ble_eq_true rfl, Nat.le_of_ble_eq_true rfl⟩ rfl rfl (jc.deep (c_isCarried (by omega) (fun c91 => ?_) (fun c91 => ?_)) (Nat.le_of_ble_eq_true rfl))
          · refine jr.if_eq rfl rfl (by first | exact rgl rfl | omega) (fun h => absurd h (by decide)) (fun _ => ?_)
            refine jr.iconst rfl ?_
            refine jr.goto rfl rfl ?_
            refine jr.istore_n (ls' := [_, _, _, _]) rfl (nlt rfl) rfl ?_
            refine jr.iload_n rfl rfl ?_
            refine jr.if_eq rfl rfl (by first | exact rgl rfl | omega) (fun h => absurd h (by decide)) (fun _ => ?_)
            refine jr.aload_n rfl rfl ?_
            refine jr.iload_n rfl rfl ?_
            refine jr.iload_n rfl rfl ?_
            refine jr.iconst rfl ?_
            refine jr.iadd rfl ?_
            refine jr.iload_n rfl rfl ?_
            refine jr.iconst rfl ?_
            refine jr.iadd rfl ?_
            obtain ⟨v8, e8⟩ : ∃ z, M 604 (ea + 1) = z := ⟨_, rfl⟩
            have b8 : 0 ≤ v8 ∧ v8 ≤ 400 := by rw [← e8]; exact (by have q := hI_M 604 (ea + 1) (Nat.le_of_ble_eq_true rfl); rw [xri_row rfl rfl] at q; exact q)
            obtain ⟨v9, e9⟩ : ∃ z, M 604 (ea + 2) = z := ⟨_, rfl⟩
            have b9 : 0 ≤ v9 ∧ v9 ≤ 400 := by rw [← e9]; exact (by have q := hI_M 604 (ea + 2) (Nat.le_of_ble_eq_true rfl); rw [xri_row rfl rfl] at q; exact q)
            refine jr_v rfl rfl (Or.inl rfl) rfl rfl (nlt rfl) rfl ⟨rfl, Nat.le_of_ble_eq_true rfl, Nat.le_of_ble_eq_true rfl⟩ rfl (jc.deep (r_takeEnds_x hI_M hH_M hS_M  (by omega) (by omega) (by omega) (by rw [e5, e8]; have z := rt; rw [e5, e8] at z; omega) (by rw [e6]; omega) (by rw [e9]; have z := rd; rw [e6, e9] at z; omega) p1 p2 ⟨⟨by omega, by omega⟩, ⟨by omega, by omega⟩⟩ (fun M7 hI_M7 hH_M7 hS_M7  w7_0 w7_1 w7_2 w7_3 w7_4 w7_5 => ?_)) (Nat.le_of_ble_eq_true rfl))
            refine jr.iload_n rfl rfl ?_
            have e10 : M7 598 6 = v4 := ((w7_5 6 (zne rfl) (zne rfl) (zne rfl) (zne rfl) (zne rfl) (zne rfl) (zne rfl)).trans e4)
            have e11 : M7 603 (ea + 2) = v6 := ((w7_4 603 (ea + 2) (nne rfl)).trans e6)
            obtain ⟨v12, e12⟩ : ∃ z, M 603 tt = z := ⟨_, rfl⟩
            have b12 : 0 ≤ v12 ∧ v12 ≤ 11 := by rw [← e12]; exact (by have q := hI_M 603 tt (Nat.le_of_ble_eq_true rfl); rw [xri_row rfl rfl] at q; exact q)
            have e13 : M7 603 tt = v12 := ((w7_4 603 tt (nne rfl)).trans e12)
            exact jr.ireturn rfl rfl rfl (q _ _ hI_M7 hH_M7 hS_M7  (by omega) (RE.mk' w7_0 (by omega) (by rw [e10]; omega) (by rw [e11]; omega) (fun q => by rw [e11]; have z := w7_1 q; omega) w7_2 (t := tt) (by omega) (by rw [e10]; omega) (by rw [e13]; omega)) (Or.inr ⟨rfl, (by rw [hea]; have h6 := p1.1; have vv := v7_0 p1 p2 (e := ea) (by omega) (by omega) e2 w3_0 (by omega); exact qf_y p1 (by omega) (by omega) (by omega) (by omega) (by omega)), (by rw [hea]; have h6 := p1.1; exact EN6.m p1 (by omega) (by omega) w7_3 w7_0)⟩) (fun a i f598 => ((w7_4 a i f598).trans rfl)) (fun i g59 g60 g61 g62 g63 g64 g65 => ((w7_5 i g59 g60 g61 g62 g63 g64 g65).trans rfl)))
          · refine jr.if_eq rfl rfl (by first | exact rgl rfl | omega) (fun _ => ?_) (fun h => absurd (by decide) h)
            refine jr.iconst rfl ?_
            refine jr.istore_n (ls' := [_, _, _, _]) rfl (nlt rfl) rfl ?_
            refine jr.iload_n rfl rfl ?_
            refine jr.if_eq rfl rfl (by first | exact rgl rfl | omega) (fun _ => ?_) (fun h => absurd (by decide) h)
            refine jr.iload_n rfl rfl ?_
            exact jr.ireturn rfl rfl rfl (q _ _ hI_M hH_M hS_M  (by omega) p0' (Or.inl ⟨rfl, (by rw [hea]; have h6 := p1.1; first | (exact qf_n p1 (by omega) (Or.inl (by omega))) | (have vv := v7_0 p1 p2 (e := ea) (by omega) (by omega) e2 w3_0 (by omega); exact qf_n p1 (by omega) (by omega)) | (exact qf_n p1 (by omega) (by omega))), rfl⟩) (fun a i f598 => rfl) (fun i g59 g60 g61 g62 g63 g64 g65 => rfl))
        · refine jr.aload_n rfl rfl ?_
          refine jr.getf (i := 7) (v := .ref 603) rfl rfl (nlt rfl) rfl (nlt rfl) rfl rfl rfl rfl ?_
          refine jr.iload_n rfl rfl ?_
          refine jr.iconst rfl ?_
          refine jr.iadd rfl ?_
          refine jr.iald (i := (ea + 1)) (x := v5) rfl (nlt rfl) rfl (Nat.le_of_ble_eq_true rfl) (by omega) (by omega) e5 ?_
          refine jr.iconst rfl ?_
          refine jr.icmp_ne rfl rfl (by first | (refine rgb (by assumption) ?_; exact rfl) | omega) (rgl rfl) (fun h80 => ?_) (fun h80 => ?_)
          · refine jr.iconst rfl ?_
            refine jr.istore_n (ls' := [_, _, _, _]) rfl (nlt rfl) rfl ?_
            refine jr.iload_n rfl rfl ?_
            refine jr.if_eq rfl rfl (by first | exact rgl rfl | omega) (fun _ => ?_) (fun h => absurd (by decide) h)
            refine jr.iload_n rfl rfl ?_
            exact jr.ireturn rfl rfl rfl (q _ _ hI_M hH_M hS_M  (by omega) p0' (Or.inl ⟨rfl, (by rw [hea]; have h6 := p1.1; first | (exact qf_n p1 (by omega) (Or.inl (by omega))) | (have vv := v7_0 p1 p2 (e := ea) (by omega) (by omega) e2 w3_0 (by omega); exact qf_n p1 (by omega) (by omega)) | (exact qf_n p1 (by omega) (by omega))), rfl⟩) (fun a i f598 => rfl) (fun i g59 g60 g61 g62 g63 g64 g65 => rfl))
          · refine jr.aload_n rfl rfl ?_
            refine jr.getf (i := 7) (v := .ref 603) rfl rfl (nlt rfl) rfl (nlt rfl) rfl rfl rfl rfl ?_
            refine jr.iload_n rfl rfl ?_
            refine jr.iconst rfl ?_
            refine jr.iadd rfl ?_
            obtain ⟨v14, e14⟩ : ∃ z, M 603 (ea + 2) = z := ⟨_, rfl⟩
            have b14 : 0 ≤ v14 ∧ v14 ≤ 11 := by rw [← e14]; exact (by have q := hI_M 603 (ea + 2) (Nat.le_of_ble_eq_true rfl); rw [xri_row rfl rfl] at q; exact q)
            refine jr.iald (i := (ea + 2)) (x := v14) rfl (nlt rfl) rfl (Nat.le_of_ble_eq_true rfl) (by omega) (by omega) e14 ?_
            refine jr_s rfl rfl (Or.inl rfl) ⟨Nat.le_of_ble_eq_true rfl, Nat.le_of_ble_eq_true rfl⟩ rfl rfl (jc.deep (c_isCarried (by omega) (fun c91 => ?_) (fun c91 => ?_)) (Nat.le_of_ble_eq_true rfl))
            · refine jr.if_eq rfl rfl (by first | exact rgl rfl | omega) (fun h => absurd h (by decide)) (fun _ => ?_)
              refine jr.iconst rfl ?_
              refine jr.goto rfl rfl ?_
              refine jr.istore_n (ls' := [_, _, _, _]) rfl (nlt rfl) rfl ?_
              refine jr.iload_n rfl rfl ?_
              refine jr.if_eq rfl rfl (by first | exact rgl rfl | omega) (fun h => absurd h (by decide)) (fun _ => ?_)
              refine jr.aload_n rfl rfl ?_
              refine jr.iload_n rfl rfl ?_
              refine jr.iload_n rfl rfl ?_
              refine jr.iconst rfl ?_
              refine jr.iadd rfl ?_
              refine jr.iload_n rfl rfl ?_
              refine jr.iconst rfl ?_
              refine jr.iadd rfl ?_
              obtain ⟨v16, e16⟩ : ∃ z, M 604 (ea + 1) = z := ⟨_, rfl⟩
              have b16 : 0 ≤ v16 ∧ v16 ≤ 400 := by rw [← e16]; exact (by have q := hI_M 604 (ea + 1) (Nat.le_of_ble_eq_true rfl); rw [xri_row rfl rfl] at q; exact q)
              obtain ⟨v17, e17⟩ : ∃ z, M 604 (ea + 2) = z := ⟨_, rfl⟩
              have b17 : 0 ≤ v17 ∧ v17 ≤ 400 := by rw [← e17]; exact (by have q := hI_M 604 (ea + 2) (Nat.le_of_ble_eq_true rfl); rw [xri_row rfl rfl] at q; exact q)
              refine jr_v rfl rfl (Or.inl rfl) rfl rfl (nlt rfl) rfl ⟨rfl, Nat.le_of_ble_eq_true rfl, Nat.le_of_ble_eq_true rfl⟩ rfl (jc.deep (r_takeEnds_x hI_M hH_M hS_M  (by omega) (by omega) (by omega) (by rw [e5, e16]; have z := rt; rw [e5, e16] at z; omega) (by rw [e14]; omega) (by rw [e17]; have z := rd; rw [e14, e17] at z; omega) p1 p2 ⟨⟨by omega, by omega⟩, ⟨by omega, by omega⟩⟩ (fun M15 hI_M15 hH_M15 hS_M15  w15_0 w15_1 w15_2 w15_3 w15_4 w15_5 => ?_)) (Nat.le_of_ble_eq_true rfl))
              refine jr.iload_n rfl rfl ?_
              have e18 : M15 598 6 = v4 := ((w15_5 6 (zne rfl) (zne rfl) (zne rfl) (zne rfl) (zne rfl) (zne rfl) (zne rfl)).trans e4)
              have e19 : M15 603 (ea + 2) = v14 := ((w15_4 603 (ea + 2) (nne rfl)).trans e14)
              obtain ⟨v20, e20⟩ : ∃ z, M 603 tt = z := ⟨_, rfl⟩
              have b20 : 0 ≤ v20 ∧ v20 ≤ 11 := by rw [← e20]; exact (by have q := hI_M 603 tt (Nat.le_of_ble_eq_true rfl); rw [xri_row rfl rfl] at q; exact q)
              have e21 : M15 603 tt = v20 := ((w15_4 603 tt (nne rfl)).trans e20)
              exact jr.ireturn rfl rfl rfl (q _ _ hI_M15 hH_M15 hS_M15  (by omega) (RE.mk' w15_0 (by omega) (by rw [e18]; omega) (by rw [e19]; omega) (fun q => by rw [e19]; have z := w15_1 q; omega) w15_2 (t := tt) (by omega) (by rw [e18]; omega) (by rw [e21]; omega)) (Or.inr ⟨rfl, (by rw [hea]; have h6 := p1.1; have vv := v7_0 p1 p2 (e := ea) (by omega) (by omega) e2 w3_0 (by omega); exact qf_y p1 (by omega) (by omega) (by omega) (by omega) (by omega)), (by rw [hea]; have h6 := p1.1; exact EN6.m p1 (by omega) (by omega) w15_3 w15_0)⟩) (fun a i f598 => ((w15_4 a i f598).trans rfl)) (fun i g59 g60 g61 g62 g63 g64 g65 => ((w15_5 i g59 g60 g61 g62 g63 g64 g65).trans rfl)))
            · refine jr.if_eq rfl rfl (by first | exact rgl rfl | omega) (fun _ => ?_) (fun h => absurd (by decide) h)
              refine jr.iconst rfl ?_
              refine jr.istore_n (ls' := [_, _, _, _]) rfl (nlt rfl) rfl ?_
              refine jr.iload_n rfl rfl ?_
              refine jr.if_eq rfl rfl (by first | exact rgl rfl | omega) (fun _ => ?_) (fun h => absurd (by decide) h)
              refine jr.iload_n rfl rfl ?_
              exact jr.ireturn rfl rfl rfl (q _ _ hI_M hH_M hS_M  (by omega) p0' (Or.inl ⟨rfl, (by rw [hea]; have h6 := p1.1; first | (exact qf_n p1 (by omega) (Or.inl (by omega))) | (have vv := v7_0 p1 p2 (e := ea) (by omega) (by omega) e2 w3_0 (by omega); exact qf_n p1 (by omega) (by omega)) | (exact qf_n p1 (by omega) (by omega))), rfl⟩) (fun a i f598 => rfl) (fun i g59 g60 g61 g62 g63 g64 g65 => rfl))
    · refine jr.aload_n rfl rfl ?_
      refine jr.iload_n rfl rfl ?_
      refine jr.aload_n rfl rfl ?_
      refine jr.getf (i := 8) (v := .ref 604) rfl rfl (nlt rfl) rfl (nlt rfl) rfl rfl rfl rfl ?_
      refine jr.iload_n rfl rfl ?_
      refine jr.iald (i := ea) (x := v2) rfl (nlt rfl) rfl (Nat.le_of_ble_eq_true rfl) (by omega) (by omega) e2 ?_
      refine jr_v rfl rfl (Or.inl rfl) rfl rfl (nlt rfl) rfl ⟨rfl, Nat.le_of_ble_eq_true rfl, Nat.le_of_ble_eq_true rfl⟩ rfl (jc.deep (r_one hI_M hH_M hS_M (Kp.rfl _) (by omega) (by omega)  (fun r22 z22 w22_0 => ?_)) (Nat.le_of_ble_eq_true rfl))
      refine jr.bipush rfl (jbp _ (nlt rfl)) ?_
      refine jr.icmp_eq rfl rfl (by first | (refine rgb (by assumption) ?_; exact rfl) | omega) (rgl rfl) (fun h44 => ?_) (fun h44 => ?_)
      · refine jr.iload_n rfl rfl ?_
        refine jr.iconst rfl ?_
        refine jr.iadd rfl ?_
        refine jr.aload_n rfl rfl ?_
        obtain ⟨v23, e23⟩ : ∃ z, M 598 6 = z := ⟨_, rfl⟩
        have b23 : 0 ≤ v23 ∧ v23 ≤ 12 := by rw [← e23]; exact hI_M 598 6 (Nat.le_of_ble_eq_true rfl)
        refine jr.getf (i := 6) (x := v23) (v := .int (Int32.ofInt (v23))) rfl rfl (nlt rfl) rfl (nlt rfl) rfl rfl e23 rfl ?_
        refine jr.icmp_ge rfl rfl (by first | (refine rgb (by assumption) ?_; exact rfl) | omega) (by first | (refine rgb (by assumption) ?_; exact rfl) | omega) (fun h56 => ?_) (fun h56 => ?_)
        · refine jr.iconst rfl ?_
          refine jr.istore_n (ls' := [_, _, _, _]) rfl (nlt rfl) rfl ?_
          refine jr.iload_n rfl rfl ?_
          refine jr.if_eq rfl rfl (by first | exact rgl rfl | omega) (fun _ => ?_) (fun h => absurd (by decide) h)
          refine jr.iload_n rfl rfl ?_
          exact jr.ireturn rfl rfl rfl (q _ _ hI_M hH_M hS_M  (by omega) p0' (Or.inl ⟨rfl, (by rw [hea]; have h6 := p1.1; first | (exact qf_n p1 (by omega) (Or.inl (by omega))) | (have vv := v7_0 p1 p2 (e := ea) (by omega) (by omega) e2 w22_0 (by omega); exact qf_n p1 (by omega) (by omega)) | (exact qf_n p1 (by omega) (by omega))), rfl⟩) (fun a i f598 => rfl) (fun i g59 g60 g61 g62 g63 g64 g65 => rfl))
        · refine jr.aload_n rfl rfl ?_
          refine jr.getf (i := 7) (v := .ref 603) rfl rfl (nlt rfl) rfl (nlt rfl) rfl rfl rfl rfl ?_
          refine jr.iload_n rfl rfl ?_
          refine jr.iconst rfl ?_
          refine jr.iadd rfl ?_
          obtain ⟨v24, e24⟩ : ∃ z, M 603 (ea + 1) = z := ⟨_, rfl⟩
          have b24 : 0 ≤ v24 ∧ v24 ≤ 11 := by rw [← e24]; exact (by have q := hI_M 603 (ea + 1) (Nat.le_of_ble_eq_true rfl); rw [xri_row rfl rfl] at q; exact q)
          refine jr.iald (i := (ea + 1)) (x := v24) rfl (nlt rfl) rfl (Nat.le_of_ble_eq_true rfl) (by omega) (by omega) e24 ?_
          refine jr.iconst rfl ?_
          refine jr.icmp_eq rfl rfl (by first | (refine rgb (by assumption) ?_; exact rfl) | omega) (rgl rfl) (fun h68 => ?_) (fun h68 => ?_)
          · refine jr.aload_n rfl rfl ?_
            refine jr.getf (i := 7) (v := .ref 603) rfl rfl (nlt rfl) rfl (nlt rfl) rfl rfl rfl rfl ?_
            refine jr.iload_n rfl rfl ?_
            refine jr.iconst rfl ?_
            refine jr.iadd rfl ?_
            obtain ⟨v25, e25⟩ : ∃ z, M 603 (ea + 2) = z := ⟨_, rfl⟩
            have b25 : 0 ≤ v25 ∧ v25 ≤ 11 := by rw [← e25]; exact (by have q := hI_M 603 (ea + 2) (Nat.le_of_ble_eq_true rfl); rw [xri_row rfl rfl] at q; exact q)
            refine jr.iald (i := (ea + 2)) (x := v25) rfl (nlt rfl) rfl (Nat.le_of_ble_eq_true rfl) (by omega) (by omega) e25 ?_
            refine jr_s rfl rfl (Or.inl rfl) ⟨Nat.le_of_ble_eq_true rfl, Nat.le_of_ble_eq_true rfl⟩ rfl rfl (jc.deep (c_isCarried (by omega) (fun c91 => ?_) (fun c91 => ?_)) (Nat.le_of_ble_eq_true rfl))
            · refine jr.if_eq rfl rfl (by first | exact rgl rfl | omega) (fun h => absurd h (by decide)) (fun _ => ?_)
              refine jr.iconst rfl ?_
              refine jr.goto rfl rfl ?_
              refine jr.istore_n (ls' := [_, _, _, _]) rfl (nlt rfl) rfl ?_
              refine jr.iload_n rfl rfl ?_
              refine jr.if_eq rfl rfl (by first | exact rgl rfl | omega) (fun h => absurd h (by decide)) (fun _ => ?_)
              refine jr.aload_n rfl rfl ?_
              refine jr.iload_n rfl rfl ?_
              refine jr.iload_n rfl rfl ?_
              refine jr.iconst rfl ?_
              refine jr.iadd rfl ?_
              refine jr.iload_n rfl rfl ?_
              refine jr.iconst rfl ?_
              refine jr.iadd rfl ?_
              obtain ⟨v27, e27⟩ : ∃ z, M 604 (ea + 1) = z := ⟨_, rfl⟩
              have b27 : 0 ≤ v27 ∧ v27 ≤ 400 := by rw [← e27]; exact (by have q := hI_M 604 (ea + 1) (Nat.le_of_ble_eq_true rfl); rw [xri_row rfl rfl] at q; exact q)
              obtain ⟨v28, e28⟩ : ∃ z, M 604 (ea + 2) = z := ⟨_, rfl⟩
              have b28 : 0 ≤ v28 ∧ v28 ≤ 400 := by rw [← e28]; exact (by have q := hI_M 604 (ea + 2) (Nat.le_of_ble_eq_true rfl); rw [xri_row rfl rfl] at q; exact q)
              refine jr_v rfl rfl (Or.inl rfl) rfl rfl (nlt rfl) rfl ⟨rfl, Nat.le_of_ble_eq_true rfl, Nat.le_of_ble_eq_true rfl⟩ rfl (jc.deep (r_takeEnds_x hI_M hH_M hS_M  (by omega) (by omega) (by omega) (by rw [e24, e27]; have z := rt; rw [e24, e27] at z; omega) (by rw [e25]; omega) (by rw [e28]; have z := rd; rw [e25, e28] at z; omega) p1 p2 ⟨⟨by omega, by omega⟩, ⟨by omega, by omega⟩⟩ (fun M26 hI_M26 hH_M26 hS_M26  w26_0 w26_1 w26_2 w26_3 w26_4 w26_5 => ?_)) (Nat.le_of_ble_eq_true rfl))
              refine jr.iload_n rfl rfl ?_
              have e29 : M26 598 6 = v23 := ((w26_5 6 (zne rfl) (zne rfl) (zne rfl) (zne rfl) (zne rfl) (zne rfl) (zne rfl)).trans e23)
              have e30 : M26 603 (ea + 2) = v25 := ((w26_4 603 (ea + 2) (nne rfl)).trans e25)
              obtain ⟨v31, e31⟩ : ∃ z, M 603 tt = z := ⟨_, rfl⟩
              have b31 : 0 ≤ v31 ∧ v31 ≤ 11 := by rw [← e31]; exact (by have q := hI_M 603 tt (Nat.le_of_ble_eq_true rfl); rw [xri_row rfl rfl] at q; exact q)
              have e32 : M26 603 tt = v31 := ((w26_4 603 tt (nne rfl)).trans e31)
              exact jr.ireturn rfl rfl rfl (q _ _ hI_M26 hH_M26 hS_M26  (by omega) (RE.mk' w26_0 (by omega) (by rw [e29]; omega) (by rw [e30]; omega) (fun q => by rw [e30]; have z := w26_1 q; omega) w26_2 (t := tt) (by omega) (by rw [e29]; omega) (by rw [e32]; omega)) (Or.inr ⟨rfl, (by rw [hea]; have h6 := p1.1; have vv := v7_0 p1 p2 (e := ea) (by omega) (by omega) e2 w22_0 (by omega); exact qf_y p1 (by omega) (by omega) (by omega) (by omega) (by omega)), (by rw [hea]; have h6 := p1.1; exact EN6.m p1 (by omega) (by omega) w26_3 w26_0)⟩) (fun a i f598 => ((w26_4 a i f598).trans rfl)) (fun i g59 g60 g61 g62 g63 g64 g65 => ((w26_5 i g59 g60 g61 g62 g63 g64 g65).trans rfl)))
            · refine jr.if_eq rfl rfl (by first | exact rgl rfl | omega) (fun _ => ?_) (fun h => absurd (by decide) h)
              refine jr.iconst rfl ?_
              refine jr.istore_n (ls' := [_, _, _, _]) rfl (nlt rfl) rfl ?_
              refine jr.iload_n rfl rfl ?_
              refine jr.if_eq rfl rfl (by first | exact rgl rfl | omega) (fun _ => ?_) (fun h => absurd (by decide) h)
              refine jr.iload_n rfl rfl ?_
              exact jr.ireturn rfl rfl rfl (q _ _ hI_M hH_M hS_M  (by omega) p0' (Or.inl ⟨rfl, (by rw [hea]; have h6 := p1.1; first | (exact qf_n p1 (by omega) (Or.inl (by omega))) | (have vv := v7_0 p1 p2 (e := ea) (by omega) (by omega) e2 w22_0 (by omega); exact qf_n p1 (by omega) (by omega)) | (exact qf_n p1 (by omega) (by omega))), rfl⟩) (fun a i f598 => rfl) (fun i g59 g60 g61 g62 g63 g64 g65 => rfl))
          · refine jr.aload_n rfl rfl ?_
            refine jr.getf (i := 7) (v := .ref 603) rfl rfl (nlt rfl) rfl (nlt rfl) rfl rfl rfl rfl ?_
            refine jr.iload_n rfl rfl ?_
            refine jr.iconst rfl ?_
            refine jr.iadd rfl ?_
            refine jr.iald (i := (ea + 1)) (x := v24) rfl (nlt rfl) rfl (Nat.le_of_ble_eq_true rfl) (by omega) (by omega) e24 ?_
            refine jr.iconst rfl ?_
            refine jr.icmp_ne rfl rfl (by first | (refine rgb (by assumption) ?_; exact rfl) | omega) (rgl rfl) (fun h80 => ?_) (fun h80 => ?_)
            · refine jr.iconst rfl ?_
              refine jr.istore_n (ls' := [_, _, _, _]) rfl (nlt rfl) rfl ?_
              refine jr.iload_n rfl rfl ?_
              refine jr.if_eq rfl rfl (by first | exact rgl rfl | omega) (fun _ => ?_) (fun h => absurd (by decide) h)
              refine jr.iload_n rfl rfl ?_
              exact jr.ireturn rfl rfl rfl (q _ _ hI_M hH_M hS_M  (by omega) p0' (Or.inl ⟨rfl, (by rw [hea]; have h6 := p1.1; first | (exact qf_n p1 (by omega) (Or.inl (by omega))) | (have vv := v7_0 p1 p2 (e := ea) (by omega) (by omega) e2 w22_0 (by omega); exact qf_n p1 (by omega) (by omega)) | (exact qf_n p1 (by omega) (by omega))), rfl⟩) (fun a i f598 => rfl) (fun i g59 g60 g61 g62 g63 g64 g65 => rfl))
            · refine jr.aload_n rfl rfl ?_
              refine jr.getf (i := 7) (v := .ref 603) rfl rfl (nlt rfl) rfl (nlt rfl) rfl rfl rfl rfl ?_
              refine jr.iload_n rfl rfl ?_
              refine jr.iconst rfl ?_
              refine jr.iadd rfl ?_
              obtain ⟨v33, e33⟩ : ∃ z, M 603 (ea + 2) = z := ⟨_, rfl⟩
              have b33 : 0 ≤ v33 ∧ v33 ≤ 11 := by rw [← e33]; exact (by have q := hI_M 603 (ea + 2) (Nat.le_of_ble_eq_true rfl); rw [xri_row rfl rfl] at q; exact q)
              refine jr.iald (i := (ea + 2)) (x := v33) rfl (nlt rfl) rfl (Nat.le_of_ble_eq_true rfl) (by omega) (by omega) e33 ?_
              refine jr_s rfl rfl (Or.inl rfl) ⟨Nat.le_of_ble_eq_true rfl, Nat.le_of_ble_eq_true rfl⟩ rfl rfl (jc.deep (c_isCarried (by omega) (fun c91 => ?_) (fun c91 => ?_)) (Nat.le_of_ble_eq_true rfl))
              · refine jr.if_eq rfl rfl (by first | exact rgl rfl | omega) (fun h => absurd h (by decide)) (fun _ => ?_)
                refine jr.iconst rfl ?_
                refine jr.goto rfl rfl ?_
                refine jr.istore_n (ls' := [_, _, _, _]) rfl (nlt rfl) rfl ?_
                refine jr.iload_n rfl rfl ?_
                refine jr.if_eq rfl rfl (by first | exact rgl rfl | omega) (fun h => absurd h (by decide)) (fun _ => ?_)
                refine jr.aload_n rfl rfl ?_
                refine jr.iload_n rfl rfl ?_
                refine jr.iload_n rfl rfl ?_
                refine jr.iconst rfl ?_
                refine jr.iadd rfl ?_
                refine jr.iload_n rfl rfl ?_
                refine jr.iconst rfl ?_
                refine jr.iadd rfl ?_
                obtain ⟨v35, e35⟩ : ∃ z, M 604 (ea + 1) = z := ⟨_, rfl⟩
                have b35 : 0 ≤ v35 ∧ v35 ≤ 400 := by rw [← e35]; exact (by have q := hI_M 604 (ea + 1) (Nat.le_of_ble_eq_true rfl); rw [xri_row rfl rfl] at q; exact q)
                obtain ⟨v36, e36⟩ : ∃ z, M 604 (ea + 2) = z := ⟨_, rfl⟩
                have b36 : 0 ≤ v36 ∧ v36 ≤ 400 := by rw [← e36]; exact (by have q := hI_M 604 (ea + 2) (Nat.le_of_ble_eq_true rfl); rw [xri_row rfl rfl] at q; exact q)
                refine jr_v rfl rfl (Or.inl rfl) rfl rfl (nlt rfl) rfl ⟨rfl, Nat.le_of_ble_eq_true rfl, Nat.le_of_ble_eq_true rfl⟩ rfl (jc.deep (r_takeEnds_x hI_M hH_M hS_M  (by omega) (by omega) (by omega) (by rw [e24, e35]; have z := rt; rw [e24, e35] at z; omega) (by rw [e33]; omega) (by rw [e36]; have z := rd; rw [e33, e36] at z; omega) p1 p2 ⟨⟨by omega, by omega⟩, ⟨by omega, by omega⟩⟩ (fun M34 hI_M34 hH_M34 hS_M34  w34_0 w34_1 w34_2 w34_3 w34_4 w34_5 => ?_)) (Nat.le_of_ble_eq_true rfl))
                refine jr.iload_n rfl rfl ?_
                have e37 : M34 598 6 = v23 := ((w34_5 6 (zne rfl) (zne rfl) (zne rfl) (zne rfl) (zne rfl) (zne rfl) (zne rfl)).trans e23)
                have e38 : M34 603 (ea + 2) = v33 := ((w34_4 603 (ea + 2) (nne rfl)).trans e33)
                obtain ⟨v39, e39⟩ : ∃ z, M 603 tt = z := ⟨_, rfl⟩
                have b39 : 0 ≤ v39 ∧ v39 ≤ 11 := by rw [← e39]; exact (by have q := hI_M 603 tt (Nat.le_of_ble_eq_true rfl); rw [xri_row rfl rfl] at q; exact q)
                have e40 : M34 603 tt = v39 := ((w34_4 603 tt (nne rfl)).trans e39)
                exact jr.ireturn rfl rfl rfl (q _ _ hI_M34 hH_M34 hS_M34  (by omega) (RE.mk' w34_0 (by omega) (by rw [e37]; omega) (by rw [e38]; omega) (fun q => by rw [e38]; have z := w34_1 q; omega) w34_2 (t := tt) (by omega) (by rw [e37]; omega) (by rw [e40]; omega)) (Or.inr ⟨rfl, (by rw [hea]; have h6 := p1.1; have vv := v7_0 p1 p2 (e := ea) (by omega) (by omega) e2 w22_0 (by omega); exact qf_y p1 (by omega) (by omega) (by omega) (by omega) (by omega)), (by rw [hea]; have h6 := p1.1; exact EN6.m p1 (by omega) (by omega) w34_3 w34_0)⟩) (fun a i f598 => ((w34_4 a i f598).trans rfl)) (fun i g59 g60 g61 g62 g63 g64 g65 => ((w34_5 i g59 g60 g61 g62 g63 g64 g65).trans rfl)))
              · refine jr.if_eq rfl rfl (by first | exact rgl rfl | omega) (fun _ => ?_) (fun h => absurd (by decide) h)
                refine jr.iconst rfl ?_
                refine jr.istore_n (ls' := [_, _, _, _]) rfl (nlt rfl) rfl ?_
                refine jr.iload_n rfl rfl ?_
                refine jr.if_eq rfl rfl (by first | exact rgl rfl | omega) (fun _ => ?_) (fun h => absurd (by decide) h)
                refine jr.iload_n rfl rfl ?_
                exact jr.ireturn rfl rfl rfl (q _ _ hI_M hH_M hS_M  (by omega) p0' (Or.inl ⟨rfl, (by rw [hea]; have h6 := p1.1; first | (exact qf_n p1 (by omega) (Or.inl (by omega))) | (have vv := v7_0 p1 p2 (e := ea) (by omega) (by omega) e2 w22_0 (by omega); exact qf_n p1 (by omega) (by omega)) | (exact qf_n p1 (by omega) (by omega))), rfl⟩) (fun a i f598 => rfl) (fun i g59 g60 g61 g62 g63 g64 g65 => rfl))
      · refine jr.iconst rfl ?_
        exact jr.ireturn rfl rfl rfl (q _ _ hI_M hH_M hS_M  (by first | exact rgq rfl | omega) p0' (Or.inl ⟨rfl, (by rw [hea]; have h6 := p1.1; first | (exact qf_n p1 (by omega) (Or.inl (by omega))) | (have vv := v7_0 p1 p2 (e := ea) (by omega) (by omega) e2 w22_0 (by omega); exact qf_n p1 (by omega) (by omega)) | (exact qf_n p1 (by omega) (by omega))), rfl⟩) (fun a i f598 => rfl) (fun i g59 g60 g61 g62 g63 g64 g65 => rfl))
end
section
/-! ===== the reference: numbers on the tape ===== -/
theorem lay2t {M : jm} {i w a b : Int} (ha : a = bt w 1) (hb : b = bt w 0) : ju (ju M 599 i a) 599 (i + 1) b 599 = ptn (M 599) i 2 w := by
  funext k
  unfold ptn
  by_cases q : k = i + 1
  · subst q
    rw [ju_same, if_pos (by omega), show i + 2 - 1 - (i + 1) = 0 by omega, hb]
  · rw [ju_i _ _ q]
    by_cases q2 : k = i
    · subst q2
      rw [ju_same, if_pos (by omega), show k + 2 - 1 - k = 1 by omega, ha]
    · rw [ju_i _ _ q2, if_neg (by omega)]
theorem r_takenTwo_x {A : Nat → Option (Nat × (Nat → Int32))} {Q : Option Value → jm → Prop} {M : jm} (hI_M : RI M) (hH_M : RH M) (hS_M : RF M) {i : Int} (h_i : 0 ≤ i ∧ i ≤ 1598) (q : ∀ (r : Int), 0 ≤ r ∧ r ≤ 65535 → r = tw (M 599) i → Q (some (.int (Int32.ofInt r))) M) : jc A 1 327 [.ref (598), .int (Int32.ofInt (i))] M Q := by
  refine jc_of (m := xm_327) rfl (Nat.le_of_ble_eq_true rfl) rfl ?_
  refine jr.aload_n rfl rfl ?_
  refine jr.getf (i := 0) (v := .ref 599) rfl rfl (nlt rfl) rfl (nlt rfl) rfl rfl rfl rfl ?_
  refine jr.iload_n rfl rfl ?_
  obtain ⟨v1, e1⟩ : ∃ z, M 599 i = z := ⟨_, rfl⟩
  have b1 : 0 ≤ v1 ∧ v1 ≤ 255 := by rw [← e1]; exact (by have q := hI_M 599 i (Nat.le_of_ble_eq_true rfl); rw [xri_row rfl rfl] at q; exact q)
  refine jr.iald (i := i) (x := v1) rfl (nlt rfl) rfl (Nat.le_of_ble_eq_true rfl) (by omega) (by omega) e1 ?_
  refine jr.bipush rfl (jbp _ (nlt rfl)) ?_
  refine jr.ishl rfl ?_
  refine jr.aload_n rfl rfl ?_
  refine jr.getf (i := 0) (v := .ref 599) rfl rfl (nlt rfl) rfl (nlt rfl) rfl rfl rfl rfl ?_
  refine jr.iload_n rfl rfl ?_
  refine jr.iconst rfl ?_
  refine jr.iadd rfl ?_
  obtain ⟨v2, e2⟩ : ∃ z, M 599 (i + 1) = z := ⟨_, rfl⟩
  have b2 : 0 ≤ v2 ∧ v2 ≤ 255 := by rw [← e2]; exact (by have q := hI_M 599 (i + 1) (Nat.le_of_ble_eq_true rfl); rw [xri_row rfl rfl] at q; exact q)
  refine jr.iald (i := (i + 1)) (x := v2) rfl (nlt rfl) rfl (Nat.le_of_ble_eq_true rfl) (by omega) (by omega) e2 ?_
  refine jr.ior rfl ?_
  have b3 : j_or (j_shl v1 8) v2 = v1 * 256 + v2 := j_sho (by omega) (by omega)
  generalize j_or (j_shl v1 8) v2 = v3 at b3 ⊢
  exact jr.ireturn rfl rfl rfl (q _ (by omega) (by unfold tw; omega))
theorem r_takenFour_x {A : Nat → Option (Nat × (Nat → Int32))} {Q : Option Value → jm → Prop} {M : jm} (hI_M : RI M) (hH_M : RH M) (hS_M : RF M) {i : Int} (h_i : 0 ≤ i ∧ i ≤ 1596) (q : ∀ (r : Int), 0 ≤ r ∧ r ≤ 4294967295 → r = nbs (M 599) i 4 → Q (some (.long (Int64.ofInt r))) M) : jc A 2 328 [.ref (598), .int (Int32.ofInt (i))] M Q := by
  refine jc_of (m := xm_328) rfl (Nat.le_of_ble_eq_true rfl) rfl ?_
  refine jr.aload_n rfl rfl ?_
  refine jr.iload_n rfl rfl ?_
  refine jr_v rfl rfl (Or.inl rfl) rfl rfl (nlt rfl) rfl ⟨rfl, Nat.le_of_ble_eq_true rfl, Nat.le_of_ble_eq_true rfl⟩ rfl (jc.deep (r_takenTwo_x hI_M hH_M hS_M  (by omega)  (fun r1 z1 w1_0 => ?_)) (Nat.le_of_ble_eq_true rfl))
  refine jr.i2l rfl (by omega) ?_
  refine jr.bipush rfl (jbp _ (nlt rfl)) ?_
  refine jr.lshl rfl ?_
  refine jr.aload_n rfl rfl ?_
  refine jr.iload_n rfl rfl ?_
  refine jr.iconst rfl ?_
  refine jr.iadd rfl ?_
  refine jr_v rfl rfl (Or.inl rfl) rfl rfl (nlt rfl) rfl ⟨rfl, Nat.le_of_ble_eq_true rfl, Nat.le_of_ble_eq_true rfl⟩ rfl (jc.deep (r_takenTwo_x hI_M hH_M hS_M  (by omega)  (fun r2 z2 w2_0 => ?_)) (Nat.le_of_ble_eq_true rfl))
  refine jr.i2l rfl (by omega) ?_
  refine jr.lor rfl ?_
  have b3 : jl_or (jl_shl r1 16) r2 = r1 * 65536 + r2 := jl_sho16 (by omega) (by omega)
  generalize jl_or (jl_shl r1 16) r2 = v3 at b3 ⊢
  exact jr.lreturn rfl rfl (q _ (by omega) (by rw [nbs_4t]; omega))
theorem r_takenEight_x {A : Nat → Option (Nat × (Nat → Int32))} {Q : Option Value → jm → Prop} {M : jm} (hI_M : RI M) (hH_M : RH M) (hS_M : RF M) {i : Int} (h_i : 0 ≤ i ∧ i ≤ 1592) (q : ∀ (r : Int), (-9223372036854775808) ≤ r ∧ r ≤ 9223372036854775807 → r = jl_w (nbs (M 599) i 8) → Q (some (.long (Int64.ofInt r))) M) : jc A 3 329 [.ref (598), .int (Int32.ofInt (i))] M Q := by
  refine jc_of (m := xm_329) rfl (Nat.le_of_ble_eq_true rfl) rfl ?_
  refine jr.aload_n rfl rfl ?_
  refine jr.iload_n rfl rfl ?_
  refine jr_v rfl rfl (Or.inl rfl) rfl rfl (nlt rfl) rfl ⟨rfl, Nat.le_of_ble_eq_true rfl, Nat.le_of_ble_eq_true rfl⟩ rfl (jc.deep (r_takenFour_x hI_M hH_M hS_M  (by omega)  (fun r1 z1 w1_0 => ?_)) (Nat.le_of_ble_eq_true rfl))
  refine jr.bipush rfl (jbp _ (nlt rfl)) ?_
  refine jr.lshl rfl ?_
  refine jr.aload_n rfl rfl ?_
  refine jr.iload_n rfl rfl ?_
  refine jr.iconst rfl ?_
  refine jr.iadd rfl ?_
  refine jr_v rfl rfl (Or.inl rfl) rfl rfl (nlt rfl) rfl ⟨rfl, Nat.le_of_ble_eq_true rfl, Nat.le_of_ble_eq_true rfl⟩ rfl (jc.deep (r_takenFour_x hI_M hH_M hS_M  (by omega)  (fun r2 z2 w2_0 => ?_)) (Nat.le_of_ble_eq_true rfl))
  refine jr.lor rfl ?_
  have b3 : jl_or (jl_shl r1 32) r2 = jl_w (r1 * 4294967296 + r2) ∧ -9223372036854775808 ≤ jl_or (jl_shl r1 32) r2 ∧ jl_or (jl_shl r1 32) r2 ≤ 9223372036854775807 := ⟨jl_sho32 (by omega), jbl_any _⟩
  generalize jl_or (jl_shl r1 32) r2 = v3 at b3 ⊢
  exact jr.lreturn rfl rfl (q _ (by omega) (by rw [nbs_8, ← w1_0, ← w2_0]; omega))
theorem r_tapeTwo_x {A : Nat → Option (Nat × (Nat → Int32))} {Q : Option Value → jm → Prop} {M : jm} (hI_M : RI M) (hH_M : RH M) (hS_M : RF M) {i : Int} (h_i : 0 ≤ i ∧ i ≤ 1598) {w : Int} (h_w : (-2147483648) ≤ w ∧ w ≤ 2147483647) (q : ∀ (M' : jm), RI M' → RH M' → RF M' → M' 599 = ptn (M 599) i 2 w → (∀ (a : Nat) (i : Int), a ≠ 599 → M' a i = M a i) → Q none M') : jc A 1 324 [.ref (598), .int (Int32.ofInt (i)), .int (Int32.ofInt (w))] M Q := by
  refine jc_of (m := xm_324) rfl (Nat.le_of_ble_eq_true rfl) rfl ?_
  refine jr.aload_n rfl rfl ?_
  refine jr.getf (i := 0) (v := .ref 599) rfl rfl (nlt rfl) rfl (nlt rfl) rfl rfl rfl rfl ?_
  refine jr.iload_n rfl rfl ?_
  refine jr.iload_n rfl rfl ?_
  refine jr.bipush rfl (jbp _ (nlt rfl)) ?_
  refine jr.ishr rfl ?_
  have b1 : j_shr w 8 = w / 256 := j_shr_ex 8 (by decide) (by omega) (by omega)
  generalize j_shr w 8 = v1 at b1 ⊢
  refine jr.sipush rfl (by decide) ?_
  refine jr.iand rfl ?_
  have b2 : j_and v1 255 = v1 % 256 := j_and_m 8 (by decide) _
  generalize j_and v1 255 = v2 at b2 ⊢
  refine jr.iast (i := i) (x := v2) rfl (nlt rfl) rfl (Nat.le_of_ble_eq_true rfl) (by omega) (by omega) ?_
  refine jr.aload_n rfl rfl ?_
  refine jr.getf (i := 0) (v := .ref 599) rfl rfl (nlt rfl) rfl (nlt rfl) rfl rfl rfl rfl ?_
  refine jr.iload_n rfl rfl ?_
  refine jr.iconst rfl ?_
  refine jr.iadd rfl ?_
  refine jr.iload_n rfl rfl ?_
  refine jr.sipush rfl (by decide) ?_
  refine jr.iand rfl ?_
  have b3 : j_and w 255 = w % 256 := j_and_m 8 (by decide) _
  generalize j_and w 255 = v3 at b3 ⊢
  refine jr.iast (i := (i + 1)) (x := v3) rfl (nlt rfl) rfl (Nat.le_of_ble_eq_true rfl) (by omega) (by omega) ?_
  exact jr.vreturn rfl rfl (q _ (RI.u (RI.u hI_M (a := 599) (i := i) (by rw [xri_row rfl rfl]; show (0 : Int) ≤ _ ∧ _ ≤ (255 : Int); omega)) (a := 599) (i := (i + 1)) (by rw [xri_row rfl rfl]; show (0 : Int) ≤ _ ∧ _ ≤ (255 : Int); omega)) (RH.o (RH.o hH_M (by decide) (by decide) (by decide)) (by decide) (by decide) (by decide)) (RF.o (RF.o hS_M (by decide) (by decide)) (by decide) (by decide))  (by exact lay2t (by show _ = w / 256 % 256; omega) (by show _ = w % 256; omega)) (fun a i f599 => ((ju_c _ _ f599).trans ((ju_c _ _ f599).trans rfl))))
end
