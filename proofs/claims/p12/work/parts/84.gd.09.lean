section
theorem c_PacketWall_gather_x {A : Nat → Option (Nat × (Nat → Int32))} {Q : Option Value → jm → Prop} {F : Int → Int → Int} {T : jm} {M : jm} (hC_M : CI M) (ht_M : FR W_c_PacketWall_gather_x T M) {x : Int} (h_x : (-2147483648) ≤ x ∧ x ≤ 2147483647) {Z : Int} (g_Z : M 0 8 = Z) (p0 : T = M) (p1 : PBS M F) (p2 : GOK M) (p3 : 0 ≤ Z ∧ Z ≤ 2000000000) (q : ∀ (r : Int) (M' : jm), CI M' → FR W_c_PacketWall_gather_x T M' → (-2147483648) ≤ r ∧ r ≤ 2147483647 → (((x < 0 ∨ 23 < x ∨ T (xe 2 x) 1 = -1) ∧ r = -2 ∧ NH T M') ∨ (((0 ≤ x ∧ x ≤ 23) ∧ T (xe 2 x) 1 ≠ -1) ∧ ∃ C : Int, HE (F x) (T (xe 2 x) 1) C ∧ GAQ T M' (F x) (T (xe 2 x) 1) C Z F r)) → Q (some (.int (Int32.ofInt r))) M') : jc A 6 16 [.ref (0), .int (Int32.ofInt (x))] M Q := by
  refine jc_of (m := xm_16) rfl (Nat.le_of_ble_eq_true rfl) rfl ?_
  have b_Z : (-2147483648) ≤ Z ∧ Z ≤ 2147483647 := by rw [← g_Z]; exact (CI.r hC_M (show kd 0 = 35 from rfl) (by decide) 8)
  refine jr.aload_n rfl rfl ?_
  refine jr.iload_n rfl rfl ?_
  refine jr_v rfl rfl (Or.inl rfl) rfl rfl (by decide) rfl ⟨rfl, Nat.le_of_ble_eq_true rfl, Nat.le_of_ble_eq_true rfl⟩ rfl (jc.deep (c_PacketWall_isPacket_x hC_M (by omega) (fun r1 z1 w1_0 w1_1 => ?_)) (by decide))
  refine jr.if_ne rfl rfl (by omega) (fun h5 => ?_) (fun h5 => ?_)
  · have sx5 : (1 : Int) ≤ r1 := by omega
    clear h5
    refine jr.aload_n rfl rfl ?_
    refine jr.getf (i := 3) (v := .ref 3) rfl rfl (by decide) rfl (by decide) rfl rfl rfl rfl ?_
    refine jr.aload_n rfl rfl ?_
    refine jr.getf (i := 2) (v := .ref 2) rfl rfl (by decide) rfl (by decide) rfl rfl rfl rfl ?_
    refine jr.iload_n rfl rfl ?_
    have k2 := kxe_42 (a := 2) rfl (i := x) (by omega) (by omega)
    refine jr.aald (c := (xe 2 x)) rfl (by decide) rfl (by decide) (by decide) rfl (by decide) (by omega) (by omega) k2.1 ?_
    obtain ⟨v4, e4⟩ : ∃ z_, M ((xe 2 x)) 1 = z_ := ⟨_, rfl⟩
    have b4 : (-1) ≤ v4 ∧ v4 ≤ 400 := by rw [← e4]; exact (CI.r hC_M k2.2 (by decide) 1)
    refine jr_v rfl rfl (Or.inl rfl) rfl rfl (by decide) rfl ⟨rfl, Nat.le_of_ble_eq_true rfl, Nat.le_of_ble_eq_true rfl⟩ rfl (jc.deep (c_Headers_readAll_x hC_M (FR.rfl _ M) (show kd 3 = 18 from rfl) k2.2 e4 (p1 x (by omega) (by omega)) (fun M3 hC_M3 hf_M3 w3_0 w3_1 w3_2 => ?_)) (by decide))
    have ht_M3 : FR W_c_PacketWall_gather_x T M3 := FR.t ht_M hf_M3 (kw_sub rfl)
    refine jr.aload_n rfl rfl ?_
    refine jr.getf (i := 3) (v := .ref 3) rfl rfl (by decide) rfl (by decide) rfl rfl rfl rfl ?_
    obtain ⟨v6, e6⟩ : ∃ z_, M3 3 3 = z_ := ⟨_, rfl⟩
    have b6 : 0 ≤ v6 ∧ v6 ≤ 12 := by rw [← e6]; exact (CI.r hC_M3 (show kd 3 = 18 from rfl) (by decide) 3)
    obtain ⟨v7, e7⟩ : ∃ z_, M3 3 4 = z_ := ⟨_, rfl⟩
    have b7 : (-2147483648) ≤ v7 ∧ v7 ≤ 2147483647 := by rw [← e7]; exact (CI.r hC_M3 (show kd 3 = 18 from rfl) (by decide) 4)
    refine jr_v rfl rfl (Or.inl rfl) rfl rfl (by decide) rfl ⟨rfl, Nat.le_of_ble_eq_true rfl, Nat.le_of_ble_eq_true rfl⟩ rfl (jc.deep (c_Headers_pieceHeader_x hC_M3 (show kd 3 = 18 from rfl) e6 e7 ((w3_1.resolve_left (fun h => by omega)).2) (fun r5 z5 w5_0 => ?_)) (by decide))
    have hpc : r5 = -1 ∨ (v7 = 0 ∧ r5 = pcf (F x) v4 v6 ∧ (0 ≤ r5 ∧ r5 < v6) ∧ ((hX (F x) v4 r5 = 2 ∧ r5 = ntf (F x) v4 v6) ∨ hX (F x) v4 r5 = 6)) := Or.elim w5_0 (fun h => Or.inl h.2) (fun h => Or.elim (pcf_r (f := F x) (N := v4) (C := v6) (by omega)) (fun u => Or.inl (by omega)) (fun u => Or.inr ⟨h.1, h.2, by rw [h.2]; exact u.1, by rw [h.2]; exact u.2⟩))
    refine jr.istore_n (ls' := [_, _, _]) rfl (by decide) rfl ?_
    refine jr.iload_n rfl rfl ?_
    refine jr.iconst rfl ?_
    refine jr.icmp_ne rfl rfl (by omega) (by omega) (fun h34 => ?_) (fun h34 => ?_)
    · have sx34 : (0 : Int) ≤ r5 := by omega
      clear h34
      refine jr.aload_n rfl rfl ?_
      refine jr.getf (i := 6) (v := .ref 11) rfl rfl (by decide) rfl (by decide) rfl rfl rfl rfl ?_
      refine jr.aload_n rfl rfl ?_
      refine jr.getf (i := 3) (v := .ref 3) rfl rfl (by decide) rfl (by decide) rfl rfl rfl rfl ?_
      refine jr.iload_n rfl rfl ?_
      obtain ⟨hF0, hpe, hp0, hp6⟩ := hpc.resolve_left (by omega)
      have hxc : hX (F x) v4 v6 = -1 := hxc_z ((w3_1.resolve_left (fun h => by omega)).2) e6 (by rw [e7]; exact hF0)
      refine jr_v rfl rfl (Or.inl rfl) rfl rfl (by decide) rfl ⟨rfl, Nat.le_of_ble_eq_true rfl, Nat.le_of_ble_eq_true rfl⟩ rfl (jc.deep (c_Gathering_nameBy_x hC_M3 (FR.rfl _ M3) (show kd 11 = 15 from rfl) (by omega) e6 rfl ((w3_1.resolve_left (fun h => by omega)).2) (fun M8 hC_M8 hf_M8 w8_0 => ?_)) (by decide))
      have ht_M8 : FR W_c_PacketWall_gather_x T M8 := FR.t ht_M3 hf_M8 (kw_sub rfl)
      refine jr.aload_n rfl rfl ?_
      refine jr_v rfl rfl (Or.inl rfl) rfl rfl (by decide) rfl ⟨rfl, Nat.le_of_ble_eq_true rfl, Nat.le_of_ble_eq_true rfl⟩ rfl (jc.deep (c_PacketWall_soughtGathering_x hC_M8  (fun r9 z9 w9_0 => ?_)) (by decide))
      have hgs := gS_r M8 8 0 (by decide)
      rw [← w9_0] at hgs
      refine jr.istore_n (ls' := [_, _, _, _]) rfl (by decide) rfl ?_
      refine jr.iload_n rfl rfl ?_
      refine jr.iconst rfl ?_
      refine jr.icmp_eq rfl rfl (by omega) (by omega) (fun h59 => ?_) (fun h59 => ?_)
      · refine jr.iconst rfl ?_
        refine jr.goto rfl rfl ?_
        refine jr.istore (ls' := [_, _, _, _, _]) rfl (by decide) rfl ?_
        refine jr.aload_n rfl rfl ?_
        refine jr.iload_n rfl rfl ?_
        refine jr.iload rfl rfl ?_
        have e11 : M8 3 3 = v6 := (hf_M8.g (show kd 3 = 18 from rfl) rfl).trans e6
        refine jr_v rfl rfl (Or.inl rfl) rfl rfl (by decide) rfl ⟨rfl, Nat.le_of_ble_eq_true rfl, Nat.le_of_ble_eq_true rfl⟩ rfl (jc.deep (c_PacketWall_isRefusedPiece_x hC_M8 (by omega) (by omega) e11 (HS.fr ((w3_1.resolve_left (fun h => by omega)).2) (show kd 3 = 18 from rfl) hC_M3 hf_M8 rfl) (by omega) (by omega) (fun r10 z10 w10_0 => ?_)) (by decide))
        refine jr.if_eq rfl rfl (by omega) (fun h89 => ?_) (fun h89 => ?_)
        · refine jr.iload_n rfl rfl ?_
          refine jr.iconst rfl ?_
          refine jr.icmp_ne rfl rfl (by omega) (by omega) (fun h97 => ?_) (fun h97 => ?_)
          · exact absurd h97 (by omega)
          · refine jr.aload_n rfl rfl ?_
            refine jr_v rfl rfl (Or.inl rfl) rfl rfl (by decide) rfl ⟨rfl, Nat.le_of_ble_eq_true rfl, Nat.le_of_ble_eq_true rfl⟩ rfl (jc.deep (c_PacketWall_freeGathering_x hC_M8  (fun r12 z12 w12_0 => ?_)) (by decide))
            refine jr.istore_n (ls' := [_, _, _, _, _]) rfl (by decide) rfl ?_
            refine jr.iload_n rfl rfl ?_
            refine jr.iconst rfl ?_
            refine jr.icmp_ne rfl rfl (by omega) (by omega) (fun h107 => ?_) (fun h107 => ?_)
            · have sx107 : (0 : Int) ≤ r12 := by omega
              clear h107
              refine jr.aload_n rfl rfl ?_
              refine jr.getf (i := 5) (v := .ref 10) rfl rfl (by decide) rfl (by decide) rfl rfl rfl rfl ?_
              refine jr.iload_n rfl rfl ?_
              have k13 := kxe_40 (a := 10) rfl (i := r12) (by omega) (by omega)
              refine jr.aald (c := (xe 10 r12)) rfl (by decide) rfl (by decide) (by decide) rfl (by decide) (by omega) (by omega) k13.1 ?_
              refine jr.aload_n rfl rfl ?_
              refine jr.getf (i := 6) (v := .ref 11) rfl rfl (by decide) rfl (by decide) rfl rfl rfl rfl ?_
              refine jr.aload_n rfl rfl ?_
              have e14 : M3 0 8 = Z := (hf_M3.g (show kd 0 = 35 from rfl) rfl).trans g_Z
              have e15 : M8 0 8 = Z := (hf_M8.g (show kd 0 = 35 from rfl) rfl).trans e14
              refine jr.getf (i := 8) (x := Z) (v := .int (Int32.ofInt (Z))) rfl rfl (by decide) rfl (by decide) rfl rfl e15 rfl ?_
              refine jr.bipush rfl (by decide) ?_
              refine jr.iadd rfl ?_
              refine jr_v rfl rfl (Or.inl rfl) rfl rfl (Nat.lt_trans (kx_15 k13.2).1 (by decide)) (kx_15 k13.2).2 ⟨rfl, Nat.le_of_ble_eq_true rfl, Nat.le_of_ble_eq_true rfl⟩ rfl (jc.deep (c_Gathering_beginAs_x hC_M8 (FR.rfl _ M8) k13.2 (by omega) rfl (xg_ (by omega)).1 (fun M16 hC_M16 hf_M16 w16_0 => ?_)) (by decide))
              have ht_M16 : FR W_c_PacketWall_gather_x T M16 := FR.t ht_M8 hf_M16 (kw_sub rfl)
              refine jr.aload_n rfl rfl ?_
              refine jr.getf (i := 5) (v := .ref 10) rfl rfl (by decide) rfl (by decide) rfl rfl rfl rfl ?_
              refine jr.iload_n rfl rfl ?_
              have k17 := kxe_40 (a := 10) rfl (i := r12) (by omega) (by omega)
              refine jr.aald (c := (xe 10 r12)) rfl (by decide) rfl (by decide) (by decide) rfl (by decide) (by omega) (by omega) k17.1 ?_
              refine jr.aload_n rfl rfl ?_
              refine jr.getf (i := 3) (v := .ref 3) rfl rfl (by decide) rfl (by decide) rfl rfl rfl rfl ?_
              refine jr.iload_n rfl rfl ?_
              refine jr.aload_n rfl rfl ?_
              refine jr.getf (i := 7) (v := .ref 14) rfl rfl (by decide) rfl (by decide) rfl rfl rfl rfl ?_
              have e19 : M16 3 3 = v6 := (hf_M16.g (show kd 3 = 18 from rfl) rfl).trans e11
              refine jr_v rfl rfl (Or.inl rfl) rfl rfl (Nat.lt_trans (kx_15 k17.2).1 (by decide)) (kx_15 k17.2).2 ⟨rfl, Nat.le_of_ble_eq_true rfl, Nat.le_of_ble_eq_true rfl⟩ rfl (jc.deep (c_Gathering_takeIn_x hC_M16 (FR.rfl _ M16) k17.2 (by omega) e19 rfl (HS.fr (HS.fr ((w3_1.resolve_left (fun h => by omega)).2) (show kd 3 = 18 from rfl) hC_M3 hf_M8 rfl) (show kd 3 = 18 from rfl) hC_M8 hf_M16 rfl) (by omega) (by omega) (rfq_d ((w10_0.resolve_left (fun h => by omega)).2)) (xg_ (by omega)).2 (fun M18 hC_M18 hf_M18 w18_0 => ?_)) (by decide))
              have ht_M18 : FR W_c_PacketWall_gather_x T M18 := FR.t ht_M16 hf_M18 (kw_sub rfl)
              refine jr.aload_n rfl rfl ?_
              refine jr.getf (i := 5) (v := .ref 10) rfl rfl (by decide) rfl (by decide) rfl rfl rfl rfl ?_
              refine jr.iload_n rfl rfl ?_
              have k20 := kxe_40 (a := 10) rfl (i := r12) (by omega) (by omega)
              refine jr.aald (c := (xe 10 r12)) rfl (by decide) rfl (by decide) (by decide) rfl (by decide) (by omega) (by omega) k20.1 ?_
              obtain ⟨v22, e22⟩ : ∃ z_, M18 ((xe 10 r12)) 7 = z_ := ⟨_, rfl⟩
              have b22 : (-1) ≤ v22 ∧ v22 ≤ 70000 := by rw [← e22]; exact (CI.r hC_M18 k20.2 (by decide) 7)
              obtain ⟨v23, e23⟩ : ∃ z_, M18 ((xe 10 r12)) 11 = z_ := ⟨_, rfl⟩
              have b23 : (-1) ≤ v23 ∧ v23 ≤ 400 := by rw [← e23]; exact (CI.r hC_M18 k20.2 (by decide) 11)
              refine jr_v rfl rfl (Or.inl rfl) rfl rfl (Nat.lt_trans (kx_15 k20.2).1 (by decide)) (kx_15 k20.2).2 ⟨rfl, Nat.le_of_ble_eq_true rfl, Nat.le_of_ble_eq_true rfl⟩ rfl (jc.deep (c_Gathering_isReady_x hC_M18 k20.2 e22 e23 (fun r21 z21 w21_0 => ?_)) (by decide))
              refine jr.if_eq rfl rfl (by omega) (fun h160 => ?_) (fun h160 => ?_)
              · refine jr.iconst rfl ?_
                exact jr.ireturn rfl rfl rfl (q _ _ hC_M18 ht_M18 (by omega) (Or.inr ⟨by rw [p0]; omega, by rw [p0, e4]; exact ⟨v6, (by have hq := HQ.e ((w3_1.resolve_left (fun h => by omega)).2).2.2.2; rw [e6] at hq; exact hq), Or.inr ⟨hxc, by rw [← hpe]; omega, M8, (by rw [← p0]; exact (NH.t (show NH T M3 from by rw [p0]; exact NH.f hf_M3 rfl) (fun b k h => w8_0.2.1 b k h))), (by rw [← hpe]; exact w8_0.1), (by unfold GAK; rw [← hpe, (show fstv M8 = 1 from by unfold fstv; rw [← w9_0]; exact if_pos (by first | (left; omega) | (right; omega))), ← w9_0]; exact Or.inr (Or.inr ⟨((w10_0.resolve_left (fun h => by omega)).2), r12, M16, M18, Or.inr ⟨by rw [← w9_0]; omega, w12_0, by omega, w16_0⟩, by have h9 := w18_0; rw [hpe] at h9; rw [hpe]; exact h9, Or.inl ⟨(show NRD M18 (xe 10 r12) from by unfold NRD; rw [e22, e23]; exact Or.elim w21_0 (fun h => Or.elim h.1 (fun u => Or.inl u) (fun u => Or.inr (Or.inl u))) (fun h => Or.inr (Or.inr (by have h9 := h.2.2; omega)))), by omega, rfl⟩⟩))⟩⟩⟩))
              · have sx160 : (1 : Int) ≤ r21 := by omega
                clear h160
                refine jr.aload_n rfl rfl ?_
                refine jr.aload_n rfl rfl ?_
                refine jr.getf (i := 5) (v := .ref 10) rfl rfl (by decide) rfl (by decide) rfl rfl rfl rfl ?_
                refine jr.iload_n rfl rfl ?_
                have k24 := kxe_40 (a := 10) rfl (i := r12) (by omega) (by omega)
                refine jr.aald (c := (xe 10 r12)) rfl (by decide) rfl (by decide) (by decide) rfl (by decide) (by omega) (by omega) k24.1 ?_
                have e26 : M18 3 3 = v6 := (hf_M18.g (show kd 3 = 18 from rfl) rfl).trans e19
                refine jr_v rfl rfl (Or.inl rfl) rfl rfl (by decide) rfl ⟨rfl, Nat.le_of_ble_eq_true rfl, Nat.le_of_ble_eq_true rfl⟩ rfl (jc.deep (c_PacketWall_putTogether_x hC_M18 (FR.rfl _ M18) k24.2 rfl (PBS.fr (PBS.fr (PBS.fr (PBS.fr p1 hf_M3 rfl) hf_M8 rfl) hf_M16 rfl) hf_M18 rfl) (GRD.t (M3 := M16) ((w3_1.resolve_left (fun h => by omega)).2) e6 hp0 hp6 (show GK1 M16 (xe 10 r12) from ⟨Or.inl w16_0.1.2.2.2.2.2.2.2.1, Or.inl w16_0.1.2.2.2.2.2.2.2.2.2⟩) (w16_0.1.2.1.trans w8_0.1.1) w18_0 (wh1_b ((w10_0.resolve_left (fun h => by omega)).2) (fun _ => rfl) (by unfold ofs; have h9 := ofs_r (f := F x) (N := v4) (C := v6) (x := r5) (by omega) (by omega); omega)) hC_M18 (kxe_40 (show kd 10 = 40 from rfl) (i := r12) (by omega) (by omega)).2 (by rw [e22]; exact (w21_0.resolve_left (fun h => by omega)).1) (by rw [e23]; exact (w21_0.resolve_left (fun h => by omega)).2.1) (by rw [e22]; have h9 := (w21_0.resolve_left (fun h => by omega)).2.2; omega)) (fun r25 M25 hC_M25 hf_M25 z25 w25_0 => ?_)) (by decide))
                have ht_M25 : FR W_c_PacketWall_gather_x T M25 := FR.t ht_M18 hf_M25 (kw_sub rfl)
                refine jr.goto rfl rfl ?_
                exact jr.ireturn rfl rfl rfl (q _ _ hC_M25 ht_M25 (by omega) (Or.inr ⟨by rw [p0]; omega, by rw [p0, e4]; exact ⟨v6, (by have hq := HQ.e ((w3_1.resolve_left (fun h => by omega)).2).2.2.2; rw [e6] at hq; exact hq), Or.inr ⟨hxc, by rw [← hpe]; omega, M8, (by rw [← p0]; exact (NH.t (show NH T M3 from by rw [p0]; exact NH.f hf_M3 rfl) (fun b k h => w8_0.2.1 b k h))), (by rw [← hpe]; exact w8_0.1), (by unfold GAK; rw [← hpe, (show fstv M8 = 1 from by unfold fstv; rw [← w9_0]; exact if_pos (by first | (left; omega) | (right; omega))), ← w9_0]; exact Or.inr (Or.inr ⟨((w10_0.resolve_left (fun h => by omega)).2), r12, M16, M18, Or.inr ⟨by rw [← w9_0]; omega, w12_0, by omega, w16_0⟩, by have h9 := w18_0; rw [hpe] at h9; rw [hpe]; exact h9, Or.inr ⟨(fun h => by unfold NRD at h; rw [e22, e23] at h; exact Or.elim w21_0 (fun u => by omega) (fun u => Or.elim h (fun z => u.1 z) (fun z => Or.elim z (fun z => u.2.1 z) (fun z => by have h9 := u.2.2; omega)))), w25_0⟩⟩))⟩⟩⟩))
            · refine jr.bipush rfl (by decide) ?_
              exact jr.ireturn rfl rfl rfl (q _ _ hC_M8 ht_M8 (by omega) (Or.inr ⟨by rw [p0]; omega, by rw [p0, e4]; exact ⟨v6, (by have hq := HQ.e ((w3_1.resolve_left (fun h => by omega)).2).2.2.2; rw [e6] at hq; exact hq), Or.inr ⟨hxc, by rw [← hpe]; omega, M8, (by rw [← p0]; exact (NH.t (show NH T M3 from by rw [p0]; exact NH.f hf_M3 rfl) (fun b k h => w8_0.2.1 b k h))), (by rw [← hpe]; exact w8_0.1), (by unfold GAK; rw [← hpe, (show fstv M8 = 1 from by unfold fstv; rw [← w9_0]; exact if_pos (by first | (left; omega) | (right; omega))), ← w9_0]; exact Or.inr (Or.inl ⟨((w10_0.resolve_left (fun h => by omega)).2), by omega, by rw [← w12_0]; omega, by omega, rfl⟩))⟩⟩⟩))
        · have sx89 : (1 : Int) ≤ r10 := by omega
          clear h89
          refine jr.bipush rfl (by decide) ?_
          exact jr.ireturn rfl rfl rfl (q _ _ hC_M8 ht_M8 (by omega) (Or.inr ⟨by rw [p0]; omega, by rw [p0, e4]; exact ⟨v6, (by have hq := HQ.e ((w3_1.resolve_left (fun h => by omega)).2).2.2.2; rw [e6] at hq; exact hq), Or.inr ⟨hxc, by rw [← hpe]; omega, M8, (by rw [← p0]; exact (NH.t (show NH T M3 from by rw [p0]; exact NH.f hf_M3 rfl) (fun b k h => w8_0.2.1 b k h))), (by rw [← hpe]; exact w8_0.1), (by unfold GAK; rw [← hpe, (show fstv M8 = 1 from by unfold fstv; rw [← w9_0]; exact if_pos (by first | (left; omega) | (right; omega))), ← w9_0]; exact Or.inl ⟨(w10_0.resolve_right (fun h => by omega)).2, by omega, rfl⟩)⟩⟩⟩))
      · have sx59 : (0 : Int) ≤ r9 := by omega
        clear h59
        refine jr.aload_n rfl rfl ?_
        refine jr.getf (i := 5) (v := .ref 10) rfl rfl (by decide) rfl (by decide) rfl rfl rfl rfl ?_
        refine jr.iload_n rfl rfl ?_
        have k27 := kxe_40 (a := 10) rfl (i := r9) (by omega) (by omega)
        refine jr.aald (c := (xe 10 r9)) rfl (by decide) rfl (by decide) (by decide) rfl (by decide) (by omega) (by omega) k27.1 ?_
        obtain ⟨v28, e28⟩ : ∃ z_, M ((xe 10 r9)) 7 = z_ := ⟨_, rfl⟩
        have b28 : (-1) ≤ v28 ∧ v28 ≤ 70000 := by rw [← e28]; exact (CI.r hC_M k27.2 (by decide) 7)
        have e29 : M3 ((xe 10 r9)) 7 = v28 := (hf_M3.g k27.2 rfl).trans e28
        have e30 : M8 ((xe 10 r9)) 7 = v28 := (hf_M8.g k27.2 rfl).trans e29
        refine jr.getf (i := 7) (x := v28) (v := .int (Int32.ofInt (v28))) rfl rfl (Nat.lt_trans (kx_15 k27.2).1 (by decide)) (kx_15 k27.2).2 (by decide) rfl rfl e30 rfl ?_
        refine jr.iconst rfl ?_
        refine jr.icmp_ne rfl rfl (by omega) (by omega) (fun h72 => ?_) (fun h72 => ?_)
        · have sx72 : (0 : Int) ≤ v28 := by omega
          clear h72
          refine jr.iconst rfl ?_
          refine jr.istore (ls' := [_, _, _, _, _]) rfl (by decide) rfl ?_
          refine jr.aload_n rfl rfl ?_
          refine jr.iload_n rfl rfl ?_
          refine jr.iload rfl rfl ?_
          have e32 : M8 3 3 = v6 := (hf_M8.g (show kd 3 = 18 from rfl) rfl).trans e6
          refine jr_v rfl rfl (Or.inl rfl) rfl rfl (by decide) rfl ⟨rfl, Nat.le_of_ble_eq_true rfl, Nat.le_of_ble_eq_true rfl⟩ rfl (jc.deep (c_PacketWall_isRefusedPiece_x hC_M8 (by omega) (by omega) e32 (HS.fr ((w3_1.resolve_left (fun h => by omega)).2) (show kd 3 = 18 from rfl) hC_M3 hf_M8 rfl) (by omega) (by omega) (fun r31 z31 w31_0 => ?_)) (by decide))
          refine jr.if_eq rfl rfl (by omega) (fun h89 => ?_) (fun h89 => ?_)
          · refine jr.iload_n rfl rfl ?_
            refine jr.iconst rfl ?_
            refine jr.icmp_ne rfl rfl (by omega) (by omega) (fun h97 => ?_) (fun h97 => ?_)
            · refine jr.aload_n rfl rfl ?_
              refine jr.getf (i := 5) (v := .ref 10) rfl rfl (by decide) rfl (by decide) rfl rfl rfl rfl ?_
              refine jr.iload_n rfl rfl ?_
              have k33 := kxe_40 (a := 10) rfl (i := r9) (by omega) (by omega)
              refine jr.aald (c := (xe 10 r9)) rfl (by decide) rfl (by decide) (by decide) rfl (by decide) (by omega) (by omega) k33.1 ?_
              refine jr.aload_n rfl rfl ?_
              refine jr.getf (i := 3) (v := .ref 3) rfl rfl (by decide) rfl (by decide) rfl rfl rfl rfl ?_
              refine jr.iload_n rfl rfl ?_
              refine jr.aload_n rfl rfl ?_
              refine jr.getf (i := 7) (v := .ref 14) rfl rfl (by decide) rfl (by decide) rfl rfl rfl rfl ?_
              refine jr_v rfl rfl (Or.inl rfl) rfl rfl (Nat.lt_trans (kx_15 k33.2).1 (by decide)) (kx_15 k33.2).2 ⟨rfl, Nat.le_of_ble_eq_true rfl, Nat.le_of_ble_eq_true rfl⟩ rfl (jc.deep (c_Gathering_takeIn_x hC_M8 (FR.rfl _ M8) k33.2 (by omega) e32 rfl (HS.fr ((w3_1.resolve_left (fun h => by omega)).2) (show kd 3 = 18 from rfl) hC_M3 hf_M8 rfl) (by omega) (by omega) (rfq_d ((w31_0.resolve_left (fun h => by omega)).2)) (xg_ (by omega)).2 (fun M34 hC_M34 hf_M34 w34_0 => ?_)) (by decide))
              have ht_M34 : FR W_c_PacketWall_gather_x T M34 := FR.t ht_M8 hf_M34 (kw_sub rfl)
              refine jr.aload_n rfl rfl ?_
              refine jr.getf (i := 5) (v := .ref 10) rfl rfl (by decide) rfl (by decide) rfl rfl rfl rfl ?_
              refine jr.iload_n rfl rfl ?_
              have k35 := kxe_40 (a := 10) rfl (i := r9) (by omega) (by omega)
              refine jr.aald (c := (xe 10 r9)) rfl (by decide) rfl (by decide) (by decide) rfl (by decide) (by omega) (by omega) k35.1 ?_
              obtain ⟨v37, e37⟩ : ∃ z_, M34 ((xe 10 r9)) 7 = z_ := ⟨_, rfl⟩
              have b37 : (-1) ≤ v37 ∧ v37 ≤ 70000 := by rw [← e37]; exact (CI.r hC_M34 k35.2 (by decide) 7)
              obtain ⟨v38, e38⟩ : ∃ z_, M34 ((xe 10 r9)) 11 = z_ := ⟨_, rfl⟩
              have b38 : (-1) ≤ v38 ∧ v38 ≤ 400 := by rw [← e38]; exact (CI.r hC_M34 k35.2 (by decide) 11)
              refine jr_v rfl rfl (Or.inl rfl) rfl rfl (Nat.lt_trans (kx_15 k35.2).1 (by decide)) (kx_15 k35.2).2 ⟨rfl, Nat.le_of_ble_eq_true rfl, Nat.le_of_ble_eq_true rfl⟩ rfl (jc.deep (c_Gathering_isReady_x hC_M34 k35.2 e37 e38 (fun r36 z36 w36_0 => ?_)) (by decide))
              refine jr.if_eq rfl rfl (by omega) (fun h160 => ?_) (fun h160 => ?_)
              · refine jr.iconst rfl ?_
                exact jr.ireturn rfl rfl rfl (q _ _ hC_M34 ht_M34 (by omega) (Or.inr ⟨by rw [p0]; omega, by rw [p0, e4]; exact ⟨v6, (by have hq := HQ.e ((w3_1.resolve_left (fun h => by omega)).2).2.2.2; rw [e6] at hq; exact hq), Or.inr ⟨hxc, by rw [← hpe]; omega, M8, (by rw [← p0]; exact (NH.t (show NH T M3 from by rw [p0]; exact NH.f hf_M3 rfl) (fun b k h => w8_0.2.1 b k h))), (by rw [← hpe]; exact w8_0.1), (by unfold GAK; rw [← hpe, (show fstv M8 = 0 from by unfold fstv; rw [← w9_0]; exact if_neg (by omega)), ← w9_0]; exact Or.inr (Or.inr ⟨((w31_0.resolve_left (fun h => by omega)).2), r9, M8, M34, Or.inl ⟨by rw [← w9_0]; omega, w9_0, rfl⟩, by have h9 := w34_0; rw [hpe] at h9; rw [hpe]; exact h9, Or.inl ⟨(show NRD M34 (xe 10 r9) from by unfold NRD; rw [e37, e38]; exact Or.elim w36_0 (fun h => Or.elim h.1 (fun u => Or.inl u) (fun u => Or.inr (Or.inl u))) (fun h => Or.inr (Or.inr (by have h9 := h.2.2; omega)))), by omega, rfl⟩⟩))⟩⟩⟩))
              · have sx160 : (1 : Int) ≤ r36 := by omega
                clear h160
                refine jr.aload_n rfl rfl ?_
                refine jr.aload_n rfl rfl ?_
                refine jr.getf (i := 5) (v := .ref 10) rfl rfl (by decide) rfl (by decide) rfl rfl rfl rfl ?_
                refine jr.iload_n rfl rfl ?_
                have k39 := kxe_40 (a := 10) rfl (i := r9) (by omega) (by omega)
                refine jr.aald (c := (xe 10 r9)) rfl (by decide) rfl (by decide) (by decide) rfl (by decide) (by omega) (by omega) k39.1 ?_
                have e41 : M34 3 3 = v6 := (hf_M34.g (show kd 3 = 18 from rfl) rfl).trans e32
                refine jr_v rfl rfl (Or.inl rfl) rfl rfl (by decide) rfl ⟨rfl, Nat.le_of_ble_eq_true rfl, Nat.le_of_ble_eq_true rfl⟩ rfl (jc.deep (c_PacketWall_putTogether_x hC_M34 (FR.rfl _ M34) k39.2 rfl (PBS.fr (PBS.fr (PBS.fr p1 hf_M3 rfl) hf_M8 rfl) hf_M34 rfl) (GRD.t (M3 := M8) ((w3_1.resolve_left (fun h => by omega)).2) e6 hp0 hp6 (GK1.e (T := T) (by rw [p0]; exact p2 r9 (by omega) (by omega) (by rw [← p0]; exact (by rw [← (NH.t (show NH T M3 from by rw [p0]; exact NH.f hf_M3 rfl) (fun b k h => w8_0.2.1 b k h)) (xe 10 r9) 0 (by rw [(kxe_40 (show kd 10 = 40 from rfl) (i := r9) (by omega) (by omega)).2]; decide) (xg_ (by omega)).1]; exact (hgs.resolve_left (by omega)).2.1))) (fun k => ((NH.t (show NH T M3 from by rw [p0]; exact NH.f hf_M3 rfl) (fun b k h => w8_0.2.1 b k h)) (xe 10 r9) k (by rw [(kxe_40 (show kd 10 = 40 from rfl) (i := r9) (by omega) (by omega)).2]; decide) (by first | exact (xg_ (by omega)).1 | omega))) (fun k => ((NH.t (show NH T M3 from by rw [p0]; exact NH.f hf_M3 rfl) (fun b k h => w8_0.2.1 b k h)) ((xe 10 r9) + 2) k (by rw [(kf_15_10 (kxe_40 (show kd 10 = 40 from rfl) (i := r9) (by omega) (by omega)).2).2]; decide) (kd_ne (by rw [(kf_15_10 (kxe_40 (show kd 10 = 40 from rfl) (i := r9) (by omega) (by omega)).2).2]; decide))))) ((hgs.resolve_left (by omega)).2.2.trans w8_0.1.1) w34_0 (wh1_b ((w31_0.resolve_left (fun h => by omega)).2) (fun h => by exfalso; omega) (by unfold ofs; have h9 := ofs_r (f := F x) (N := v4) (C := v6) (x := r5) (by omega) (by omega); omega)) hC_M34 (kxe_40 (show kd 10 = 40 from rfl) (i := r9) (by omega) (by omega)).2 (by rw [e37]; exact (w36_0.resolve_left (fun h => by omega)).1) (by rw [e38]; exact (w36_0.resolve_left (fun h => by omega)).2.1) (by rw [e37]; have h9 := (w36_0.resolve_left (fun h => by omega)).2.2; omega)) (fun r40 M40 hC_M40 hf_M40 z40 w40_0 => ?_)) (by decide))
                have ht_M40 : FR W_c_PacketWall_gather_x T M40 := FR.t ht_M34 hf_M40 (kw_sub rfl)
                refine jr.goto rfl rfl ?_
                exact jr.ireturn rfl rfl rfl (q _ _ hC_M40 ht_M40 (by omega) (Or.inr ⟨by rw [p0]; omega, by rw [p0, e4]; exact ⟨v6, (by have hq := HQ.e ((w3_1.resolve_left (fun h => by omega)).2).2.2.2; rw [e6] at hq; exact hq), Or.inr ⟨hxc, by rw [← hpe]; omega, M8, (by rw [← p0]; exact (NH.t (show NH T M3 from by rw [p0]; exact NH.f hf_M3 rfl) (fun b k h => w8_0.2.1 b k h))), (by rw [← hpe]; exact w8_0.1), (by unfold GAK; rw [← hpe, (show fstv M8 = 0 from by unfold fstv; rw [← w9_0]; exact if_neg (by omega)), ← w9_0]; exact Or.inr (Or.inr ⟨((w31_0.resolve_left (fun h => by omega)).2), r9, M8, M34, Or.inl ⟨by rw [← w9_0]; omega, w9_0, rfl⟩, by have h9 := w34_0; rw [hpe] at h9; rw [hpe]; exact h9, Or.inr ⟨(fun h => by unfold NRD at h; rw [e37, e38] at h; exact Or.elim w36_0 (fun u => by omega) (fun u => Or.elim h (fun z => u.1 z) (fun z => Or.elim z (fun z => u.2.1 z) (fun z => by have h9 := u.2.2; omega)))), w40_0⟩⟩))⟩⟩⟩))
            · exact absurd (by omega) h97
          · have sx89 : (1 : Int) ≤ r31 := by omega
            clear h89
            refine jr.bipush rfl (by decide) ?_
            exact jr.ireturn rfl rfl rfl (q _ _ hC_M8 ht_M8 (by omega) (Or.inr ⟨by rw [p0]; omega, by rw [p0, e4]; exact ⟨v6, (by have hq := HQ.e ((w3_1.resolve_left (fun h => by omega)).2).2.2.2; rw [e6] at hq; exact hq), Or.inr ⟨hxc, by rw [← hpe]; omega, M8, (by rw [← p0]; exact (NH.t (show NH T M3 from by rw [p0]; exact NH.f hf_M3 rfl) (fun b k h => w8_0.2.1 b k h))), (by rw [← hpe]; exact w8_0.1), (by unfold GAK; rw [← hpe, (show fstv M8 = 0 from by unfold fstv; rw [← w9_0]; exact if_neg (by omega)), ← w9_0]; exact Or.inl ⟨(w31_0.resolve_right (fun h => by omega)).2, by omega, rfl⟩)⟩⟩⟩))
        · refine jr.iconst rfl ?_
          refine jr.goto rfl rfl ?_
          refine jr.istore (ls' := [_, _, _, _, _]) rfl (by decide) rfl ?_
          refine jr.aload_n rfl rfl ?_
          refine jr.iload_n rfl rfl ?_
          refine jr.iload rfl rfl ?_
          have e43 : M8 3 3 = v6 := (hf_M8.g (show kd 3 = 18 from rfl) rfl).trans e6
          refine jr_v rfl rfl (Or.inl rfl) rfl rfl (by decide) rfl ⟨rfl, Nat.le_of_ble_eq_true rfl, Nat.le_of_ble_eq_true rfl⟩ rfl (jc.deep (c_PacketWall_isRefusedPiece_x hC_M8 (by omega) (by omega) e43 (HS.fr ((w3_1.resolve_left (fun h => by omega)).2) (show kd 3 = 18 from rfl) hC_M3 hf_M8 rfl) (by omega) (by omega) (fun r42 z42 w42_0 => ?_)) (by decide))
          refine jr.if_eq rfl rfl (by omega) (fun h89 => ?_) (fun h89 => ?_)
          · refine jr.iload_n rfl rfl ?_
            refine jr.iconst rfl ?_
            refine jr.icmp_ne rfl rfl (by omega) (by omega) (fun h97 => ?_) (fun h97 => ?_)
            · refine jr.aload_n rfl rfl ?_
              refine jr.getf (i := 5) (v := .ref 10) rfl rfl (by decide) rfl (by decide) rfl rfl rfl rfl ?_
              refine jr.iload_n rfl rfl ?_
              have k44 := kxe_40 (a := 10) rfl (i := r9) (by omega) (by omega)
              refine jr.aald (c := (xe 10 r9)) rfl (by decide) rfl (by decide) (by decide) rfl (by decide) (by omega) (by omega) k44.1 ?_
              refine jr.aload_n rfl rfl ?_
              refine jr.getf (i := 3) (v := .ref 3) rfl rfl (by decide) rfl (by decide) rfl rfl rfl rfl ?_
              refine jr.iload_n rfl rfl ?_
              refine jr.aload_n rfl rfl ?_
              refine jr.getf (i := 7) (v := .ref 14) rfl rfl (by decide) rfl (by decide) rfl rfl rfl rfl ?_
              refine jr_v rfl rfl (Or.inl rfl) rfl rfl (Nat.lt_trans (kx_15 k44.2).1 (by decide)) (kx_15 k44.2).2 ⟨rfl, Nat.le_of_ble_eq_true rfl, Nat.le_of_ble_eq_true rfl⟩ rfl (jc.deep (c_Gathering_takeIn_x hC_M8 (FR.rfl _ M8) k44.2 (by omega) e43 rfl (HS.fr ((w3_1.resolve_left (fun h => by omega)).2) (show kd 3 = 18 from rfl) hC_M3 hf_M8 rfl) (by omega) (by omega) (rfq_d ((w42_0.resolve_left (fun h => by omega)).2)) (xg_ (by omega)).2 (fun M45 hC_M45 hf_M45 w45_0 => ?_)) (by decide))
              have ht_M45 : FR W_c_PacketWall_gather_x T M45 := FR.t ht_M8 hf_M45 (kw_sub rfl)
              refine jr.aload_n rfl rfl ?_
              refine jr.getf (i := 5) (v := .ref 10) rfl rfl (by decide) rfl (by decide) rfl rfl rfl rfl ?_
              refine jr.iload_n rfl rfl ?_
              have k46 := kxe_40 (a := 10) rfl (i := r9) (by omega) (by omega)
              refine jr.aald (c := (xe 10 r9)) rfl (by decide) rfl (by decide) (by decide) rfl (by decide) (by omega) (by omega) k46.1 ?_
              obtain ⟨v48, e48⟩ : ∃ z_, M45 ((xe 10 r9)) 7 = z_ := ⟨_, rfl⟩
              have b48 : (-1) ≤ v48 ∧ v48 ≤ 70000 := by rw [← e48]; exact (CI.r hC_M45 k46.2 (by decide) 7)
              obtain ⟨v49, e49⟩ : ∃ z_, M45 ((xe 10 r9)) 11 = z_ := ⟨_, rfl⟩
              have b49 : (-1) ≤ v49 ∧ v49 ≤ 400 := by rw [← e49]; exact (CI.r hC_M45 k46.2 (by decide) 11)
              refine jr_v rfl rfl (Or.inl rfl) rfl rfl (Nat.lt_trans (kx_15 k46.2).1 (by decide)) (kx_15 k46.2).2 ⟨rfl, Nat.le_of_ble_eq_true rfl, Nat.le_of_ble_eq_true rfl⟩ rfl (jc.deep (c_Gathering_isReady_x hC_M45 k46.2 e48 e49 (fun r47 z47 w47_0 => ?_)) (by decide))
              refine jr.if_eq rfl rfl (by omega) (fun h160 => ?_) (fun h160 => ?_)
              · refine jr.iconst rfl ?_
                exact jr.ireturn rfl rfl rfl (q _ _ hC_M45 ht_M45 (by omega) (Or.inr ⟨by rw [p0]; omega, by rw [p0, e4]; exact ⟨v6, (by have hq := HQ.e ((w3_1.resolve_left (fun h => by omega)).2).2.2.2; rw [e6] at hq; exact hq), Or.inr ⟨hxc, by rw [← hpe]; omega, M8, (by rw [← p0]; exact (NH.t (show NH T M3 from by rw [p0]; exact NH.f hf_M3 rfl) (fun b k h => w8_0.2.1 b k h))), (by rw [← hpe]; exact w8_0.1), (by unfold GAK; rw [← hpe, (show fstv M8 = 1 from by unfold fstv; rw [← w9_0]; exact if_pos (by first | (left; omega) | (right; omega))), ← w9_0]; exact Or.inr (Or.inr ⟨((w42_0.resolve_left (fun h => by omega)).2), r9, M8, M45, Or.inl ⟨by rw [← w9_0]; omega, w9_0, rfl⟩, by have h9 := w45_0; rw [hpe] at h9; rw [hpe]; exact h9, Or.inl ⟨(show NRD M45 (xe 10 r9) from by unfold NRD; rw [e48, e49]; exact Or.elim w47_0 (fun h => Or.elim h.1 (fun u => Or.inl u) (fun u => Or.inr (Or.inl u))) (fun h => Or.inr (Or.inr (by have h9 := h.2.2; omega)))), by omega, rfl⟩⟩))⟩⟩⟩))
              · have sx160 : (1 : Int) ≤ r47 := by omega
                clear h160
                refine jr.aload_n rfl rfl ?_
                refine jr.aload_n rfl rfl ?_
                refine jr.getf (i := 5) (v := .ref 10) rfl rfl (by decide) rfl (by decide) rfl rfl rfl rfl ?_
                refine jr.iload_n rfl rfl ?_
                have k50 := kxe_40 (a := 10) rfl (i := r9) (by omega) (by omega)
                refine jr.aald (c := (xe 10 r9)) rfl (by decide) rfl (by decide) (by decide) rfl (by decide) (by omega) (by omega) k50.1 ?_
                have e52 : M45 3 3 = v6 := (hf_M45.g (show kd 3 = 18 from rfl) rfl).trans e43
                refine jr_v rfl rfl (Or.inl rfl) rfl rfl (by decide) rfl ⟨rfl, Nat.le_of_ble_eq_true rfl, Nat.le_of_ble_eq_true rfl⟩ rfl (jc.deep (c_PacketWall_putTogether_x hC_M45 (FR.rfl _ M45) k50.2 rfl (PBS.fr (PBS.fr (PBS.fr p1 hf_M3 rfl) hf_M8 rfl) hf_M45 rfl) (GRD.t (M3 := M8) ((w3_1.resolve_left (fun h => by omega)).2) e6 hp0 hp6 (GK1.e (T := T) (by rw [p0]; exact p2 r9 (by omega) (by omega) (by rw [← p0]; exact (by rw [← (NH.t (show NH T M3 from by rw [p0]; exact NH.f hf_M3 rfl) (fun b k h => w8_0.2.1 b k h)) (xe 10 r9) 0 (by rw [(kxe_40 (show kd 10 = 40 from rfl) (i := r9) (by omega) (by omega)).2]; decide) (xg_ (by omega)).1]; exact (hgs.resolve_left (by omega)).2.1))) (fun k => ((NH.t (show NH T M3 from by rw [p0]; exact NH.f hf_M3 rfl) (fun b k h => w8_0.2.1 b k h)) (xe 10 r9) k (by rw [(kxe_40 (show kd 10 = 40 from rfl) (i := r9) (by omega) (by omega)).2]; decide) (by first | exact (xg_ (by omega)).1 | omega))) (fun k => ((NH.t (show NH T M3 from by rw [p0]; exact NH.f hf_M3 rfl) (fun b k h => w8_0.2.1 b k h)) ((xe 10 r9) + 2) k (by rw [(kf_15_10 (kxe_40 (show kd 10 = 40 from rfl) (i := r9) (by omega) (by omega)).2).2]; decide) (kd_ne (by rw [(kf_15_10 (kxe_40 (show kd 10 = 40 from rfl) (i := r9) (by omega) (by omega)).2).2]; decide))))) ((hgs.resolve_left (by omega)).2.2.trans w8_0.1.1) w45_0 (wh1_b ((w42_0.resolve_left (fun h => by omega)).2) (fun _ => rfl) (by unfold ofs; have h9 := ofs_r (f := F x) (N := v4) (C := v6) (x := r5) (by omega) (by omega); omega)) hC_M45 (kxe_40 (show kd 10 = 40 from rfl) (i := r9) (by omega) (by omega)).2 (by rw [e48]; exact (w47_0.resolve_left (fun h => by omega)).1) (by rw [e49]; exact (w47_0.resolve_left (fun h => by omega)).2.1) (by rw [e48]; have h9 := (w47_0.resolve_left (fun h => by omega)).2.2; omega)) (fun r51 M51 hC_M51 hf_M51 z51 w51_0 => ?_)) (by decide))
                have ht_M51 : FR W_c_PacketWall_gather_x T M51 := FR.t ht_M45 hf_M51 (kw_sub rfl)
                refine jr.goto rfl rfl ?_
                exact jr.ireturn rfl rfl rfl (q _ _ hC_M51 ht_M51 (by omega) (Or.inr ⟨by rw [p0]; omega, by rw [p0, e4]; exact ⟨v6, (by have hq := HQ.e ((w3_1.resolve_left (fun h => by omega)).2).2.2.2; rw [e6] at hq; exact hq), Or.inr ⟨hxc, by rw [← hpe]; omega, M8, (by rw [← p0]; exact (NH.t (show NH T M3 from by rw [p0]; exact NH.f hf_M3 rfl) (fun b k h => w8_0.2.1 b k h))), (by rw [← hpe]; exact w8_0.1), (by unfold GAK; rw [← hpe, (show fstv M8 = 1 from by unfold fstv; rw [← w9_0]; exact if_pos (by first | (left; omega) | (right; omega))), ← w9_0]; exact Or.inr (Or.inr ⟨((w42_0.resolve_left (fun h => by omega)).2), r9, M8, M45, Or.inl ⟨by rw [← w9_0]; omega, w9_0, rfl⟩, by have h9 := w45_0; rw [hpe] at h9; rw [hpe]; exact h9, Or.inr ⟨(fun h => by unfold NRD at h; rw [e48, e49] at h; exact Or.elim w47_0 (fun u => by omega) (fun u => Or.elim h (fun z => u.1 z) (fun z => Or.elim z (fun z => u.2.1 z) (fun z => by have h9 := u.2.2; omega)))), w51_0⟩⟩))⟩⟩⟩))
            · exact absurd (by omega) h97
          · have sx89 : (1 : Int) ≤ r42 := by omega
            clear h89
            refine jr.bipush rfl (by decide) ?_
            exact jr.ireturn rfl rfl rfl (q _ _ hC_M8 ht_M8 (by omega) (Or.inr ⟨by rw [p0]; omega, by rw [p0, e4]; exact ⟨v6, (by have hq := HQ.e ((w3_1.resolve_left (fun h => by omega)).2).2.2.2; rw [e6] at hq; exact hq), Or.inr ⟨hxc, by rw [← hpe]; omega, M8, (by rw [← p0]; exact (NH.t (show NH T M3 from by rw [p0]; exact NH.f hf_M3 rfl) (fun b k h => w8_0.2.1 b k h))), (by rw [← hpe]; exact w8_0.1), (by unfold GAK; rw [← hpe, (show fstv M8 = 1 from by unfold fstv; rw [← w9_0]; exact if_pos (by first | (left; omega) | (right; omega))), ← w9_0]; exact Or.inl ⟨(w42_0.resolve_right (fun h => by omega)).2, by omega, rfl⟩)⟩⟩⟩))
    · refine jr.bipush rfl (by decide) ?_
      exact jr.ireturn rfl rfl rfl (q _ _ hC_M3 ht_M3 (by omega) (Or.inr ⟨by rw [p0]; omega, by rw [p0, e4]; exact ⟨v6, (by have hq := HQ.e ((w3_1.resolve_left (fun h => by omega)).2).2.2.2; rw [e6] at hq; exact hq), Or.inl ⟨Or.elim w5_0 (fun h => Or.inl (hxc_n ((w3_1.resolve_left (fun h => by omega)).2) e6 (by rw [e7]; exact h.1))) (fun h => Or.inr (by omega)), by omega, by rw [← p0]; exact (show NH T M3 from by rw [p0]; exact NH.f hf_M3 rfl)⟩⟩⟩))
  · refine jr.bipush rfl (by decide) ?_
    exact jr.ireturn rfl rfl rfl (q _ _ hC_M ht_M (by omega) (Or.inl ⟨by rw [p0]; omega, by omega, by rw [p0]; exact fun _ _ _ _ => rfl⟩))
end
