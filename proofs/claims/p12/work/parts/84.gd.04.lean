section
theorem c_Gathering_takeIn_x {A : Nat → Option (Nat × (Nat → Int32))} {Q : Option Value → jm → Prop} {f : Int → Int} {N : Int} {T : jm} {M : jm} (hC_M : CI M) (ht_M : FR W_c_Gathering_takeIn_x T M) {t : Nat} (k_t : kd t = 15) {y : Int} (h_y : 0 ≤ y ∧ y ≤ 11) {C : Int} (g_C : M 3 3 = C) (p0 : T = M) (p1 : HS M 3 f N) (p2 : y < C) (p3 : hX f N y = 2 ∨ hX f N y = 6) (p4 : 1 ≤ N - enf f N C y) (p5 : t ≠ 14 ∧ t + 1 ≠ 14 ∧ t + 2 ≠ 14) (q : ∀ (M' : jm), CI M' → FR W_c_Gathering_takeIn_x T M' → (TKI T M' t f N C y) → Q none M') : jc A 4 96 [.ref (t), .ref (3), .int (Int32.ofInt (y)), .ref (14)] M Q := by
  refine jc_of (m := xm_96) rfl (Nat.le_of_ble_eq_true rfl) rfl ?_
  have b_C : 0 ≤ C ∧ C ≤ 12 := by rw [← g_C]; exact (CI.r hC_M (show kd 3 = 18 from rfl) (by decide) 3)
  refine jr.aload_n rfl rfl ?_
  refine jr.iload_n rfl rfl ?_
  refine jr_v rfl rfl (Or.inl rfl) rfl rfl (by decide) rfl ⟨rfl, Nat.le_of_ble_eq_true rfl, Nat.le_of_ble_eq_true rfl⟩ rfl (jc.deep (c_Headers_offsetOf_x hC_M (show kd 3 = 18 from rfl) (by omega) g_C p1 (by omega) (by omega) (fun r1 z1 w1_0 => ?_)) (by decide))
  refine jr.istore (ls' := [_, _, _, _, _]) rfl (by decide) rfl ?_
  refine jr.aload_n rfl rfl ?_
  refine jr.iload_n rfl rfl ?_
  obtain ⟨v3, e3⟩ : ∃ z_, M 3 7 = z_ := ⟨_, rfl⟩
  have b3 : 0 ≤ v3 ∧ v3 ≤ 597 := by rw [← e3]; exact (CI.r hC_M (show kd 3 = 18 from rfl) (by decide) 7)
  have k2_S : kd (v3).toNat = 33 := (congrArg (fun z : Int => kd z.toNat) e3).symm.trans (CI.x hC_M (show kd 3 = 18 from rfl) 7 rfl (by decide))
  refine jr_v rfl rfl (Or.inl rfl) rfl rfl (by decide) rfl ⟨rfl, Nat.le_of_ble_eq_true rfl, Nat.le_of_ble_eq_true rfl⟩ rfl (jc.deep (c_Headers_dataBehind_x hC_M (show kd 3 = 18 from rfl) (by omega) g_C e3 p1 (fun r2 z2 w2_0 => ?_)) (by decide))
  have hdb : 1 ≤ r2 ∧ r2 ≤ 400 ∧ enf f N C y + r2 = N ∧ 0 ≤ enf f N C y ∧ N ≤ 400 := (by have hq := enf_i (f := f) (N := N) (C := C) (x := y) (by omega); have hy := HS.y p1 g_C (x := y) (by omega); have hN := p1.2.2.1; omega)
  refine jr.istore (ls' := [_, _, _, _, _, _]) rfl (by decide) rfl ?_
  refine jr.aload_n rfl rfl ?_
  obtain ⟨v4, e4⟩ : ∃ z_, M t 7 = z_ := ⟨_, rfl⟩
  have b4 : (-1) ≤ v4 ∧ v4 ≤ 70000 := by rw [← e4]; exact (CI.r hC_M k_t (by decide) 7)
  refine jr.getf (i := 7) (x := v4) (v := .int (Int32.ofInt (v4))) rfl rfl (Nat.lt_trans (kx_15 k_t).1 (by decide)) (kx_15 k_t).2 (by decide) rfl rfl e4 rfl ?_
  refine jr.iconst rfl ?_
  refine jr.icmp_ne rfl rfl (by omega) (by omega) (fun h19 => ?_) (fun h19 => ?_)
  · have sx19 : (0 : Int) ≤ v4 := by omega
    clear h19
    refine jr.aload_n rfl rfl ?_
    refine jr.aload_n rfl rfl ?_
    obtain ⟨v5, e5⟩ : ∃ z_, M t 8 = z_ := ⟨_, rfl⟩
    have b5 : (-2147483648) ≤ v5 ∧ v5 ≤ 2147483647 := by rw [← e5]; exact (CI.r hC_M k_t (by decide) 8)
    refine jr.getf (i := 8) (x := v5) (v := .int (Int32.ofInt (v5))) rfl rfl (Nat.lt_trans (kx_15 k_t).1 (by decide)) (kx_15 k_t).2 (by decide) rfl rfl e5 rfl ?_
    refine jr.iload rfl rfl ?_
    refine jr.iload rfl rfl ?_
    refine jr.iadd rfl ?_
    refine jr.imax rfl rfl (Nat.le_of_ble_eq_true rfl) (by omega) (by omega) ?_
    intro v6 d6 b6 c6
    refine jr.putf (i := 8) (x := v6) rfl rfl (Nat.lt_trans (kx_15 k_t).1 (by decide)) (kx_15 k_t).2 (by decide) rfl rfl rfl rfl rfl ?_
    refine jr.iload rfl rfl ?_
    refine jr.if_ne rfl rfl (by omega) (fun h57 => ?_) (fun h57 => ?_)
    · have sx57 : (1 : Int) ≤ r1 := by omega
      clear h57
      refine jr.iconst rfl ?_
      refine jr.istore (ls' := [_, _, _, _, _, _, _]) rfl (by decide) rfl ?_
      refine jr.iconst rfl ?_
      refine jr.istore (ls' := [_, _, _, _, _, _, _, _]) rfl (by decide) rfl ?_
      obtain ⟨v7, e7⟩ : ∃ z_, M t 11 = z_ := ⟨_, rfl⟩
      have b7 : (-1) ≤ v7 ∧ v7 ≤ 400 := by rw [← e7]; exact (CI.r hC_M k_t (by decide) 11)
      refine jr.pick (ls := [_, _, _, _, _, _, _, _]) [6, 3, 2, 1, 0, 4, 5, 7] rfl rfl ?_
      exact c_Gathering_takeIn_x_L80 k_t q 400 ((ju M t 8 v6)) r1 r2 0 0 (CI.u hC_M (i := 8) k_t (show (-2147483648 : Int) ≤ _ ∧ _ ≤ (2147483647 : Int) from by omega) rfl) (FR.o ht_M k_t rfl) (by omega) (by omega) (by omega) (by omega) (by omega) ((ju_i _ _ (by decide)).trans g_C) ((ju_i _ _ (by decide)).trans e4) (ju_same _ _ _ _) (HS.fr p1 (show kd 3 = 18 from rfl) hC_M (FR.o (FR.rfl [(15, 8)] M) k_t rfl) rfl) (TK0.n (show TK0 T ((ju M t 8 v6)) t v4 v6 from ⟨((ju_i _ _ (by decide)).trans e4), (ju_same _ _ _ _), fun k a b => by rw [ju_i _ _ b, p0], fun b k hb => by rw [ju_c _ _ hb, p0]⟩) (by unfold wh1; rw [← w1_0, ← w2_0, p0, e4]; first | (rw [if_neg (by omega)])) (by unfold cm1; rw [← w1_0, ← w2_0, p0, e5]; (split <;> omega)) (by rw [← w1_0, p0, e7]; omega)) (TKR.z (fun k => by rw [ju_c _ _ (show t + 1 ≠ t by omega), p0])) ⟨w1_0, w2_0⟩ (by omega) (by omega) p5 (by omega)
    · refine jr.aload_n rfl rfl ?_
      obtain ⟨v8, e8⟩ : ∃ z_, M t 11 = z_ := ⟨_, rfl⟩
      have b8 : (-1) ≤ v8 ∧ v8 ≤ 400 := by rw [← e8]; exact (CI.r hC_M k_t (by decide) 11)
      refine jr.getf (i := 11) (x := v8) (v := .int (Int32.ofInt (v8))) rfl rfl (Nat.lt_trans (kx_15 k_t).1 (by decide)) (kx_15 k_t).2 (by decide) rfl rfl ((ju_i _ _ (by decide)).trans e8) rfl ?_
      refine jr.iconst rfl ?_
      refine jr.icmp_ne rfl rfl (by omega) (by omega) (fun h65 => ?_) (fun h65 => ?_)
      · have sx65 : (0 : Int) ≤ v8 := by omega
        clear h65
        refine jr.iconst rfl ?_
        refine jr.istore (ls' := [_, _, _, _, _, _, _]) rfl (by decide) rfl ?_
        refine jr.iconst rfl ?_
        refine jr.istore (ls' := [_, _, _, _, _, _, _, _]) rfl (by decide) rfl ?_
        refine jr.pick (ls := [_, _, _, _, _, _, _, _]) [6, 3, 2, 1, 0, 4, 5, 7] rfl rfl ?_
        exact c_Gathering_takeIn_x_L80 k_t q 400 ((ju M t 8 v6)) r1 r2 0 0 (CI.u hC_M (i := 8) k_t (show (-2147483648 : Int) ≤ _ ∧ _ ≤ (2147483647 : Int) from by omega) rfl) (FR.o ht_M k_t rfl) (by omega) (by omega) (by omega) (by omega) (by omega) ((ju_i _ _ (by decide)).trans g_C) ((ju_i _ _ (by decide)).trans e4) (ju_same _ _ _ _) (HS.fr p1 (show kd 3 = 18 from rfl) hC_M (FR.o (FR.rfl [(15, 8)] M) k_t rfl) rfl) (TK0.n (show TK0 T ((ju M t 8 v6)) t v4 v6 from ⟨((ju_i _ _ (by decide)).trans e4), (ju_same _ _ _ _), fun k a b => by rw [ju_i _ _ b, p0], fun b k hb => by rw [ju_c _ _ hb, p0]⟩) (by unfold wh1; rw [← w1_0, ← w2_0, p0, e4]; first | (rw [if_neg (by omega)])) (by unfold cm1; rw [← w1_0, ← w2_0, p0, e5]; (split <;> omega)) (by rw [← w1_0, p0, e8]; omega)) (TKR.z (fun k => by rw [ju_c _ _ (show t + 1 ≠ t by omega), p0])) ⟨w1_0, w2_0⟩ (by omega) (by omega) p5 (by omega)
      · refine jr.aload_n rfl rfl ?_
        refine jr.aload_n rfl rfl ?_
        refine jr.iload_n rfl rfl ?_
        refine jr_v rfl rfl (Or.inl rfl) rfl rfl (Nat.lt_trans (kx_15 k_t).1 (by decide)) (kx_15 k_t).2 ⟨rfl, Nat.le_of_ble_eq_true rfl, Nat.le_of_ble_eq_true rfl⟩ rfl (jc.deep (c_Gathering_keepHeaders_x (CI.u hC_M (i := 8) k_t (show (-2147483648 : Int) ≤ _ ∧ _ ≤ (2147483647 : Int) from by omega) rfl) (FR.rfl _ ((ju M t 8 v6))) k_t (by omega) ((ju_i _ _ (by decide)).trans g_C) rfl (HS.fr p1 (show kd 3 = 18 from rfl) hC_M (FR.o (FR.rfl [(15, 8)] M) k_t rfl) rfl) (by omega) (by omega) (fun M9 hC_M9 hf_M9 w9_0 => ?_)) (by decide))
        have ht_M9 : FR W_c_Gathering_takeIn_x T M9 := FR.t (FR.o ht_M k_t rfl) hf_M9 (kw_sub rfl)
        refine jr.iconst rfl ?_
        refine jr.istore (ls' := [_, _, _, _, _, _, _]) rfl (by decide) rfl ?_
        refine jr.iconst rfl ?_
        refine jr.istore (ls' := [_, _, _, _, _, _, _, _]) rfl (by decide) rfl ?_
        have e10 : M9 3 3 = C := (hf_M9.g (show kd 3 = 18 from rfl) rfl).trans ((ju_i _ _ (by decide)).trans g_C)
        have e11 : M9 t 7 = v4 := (hf_M9.g k_t rfl).trans ((ju_i _ _ (by decide)).trans e4)
        have e12 : M9 t 8 = v6 := (hf_M9.g k_t rfl).trans (ju_same _ _ _ _)
        refine jr.pick (ls := [_, _, _, _, _, _, _, _]) [6, 3, 2, 1, 0, 4, 5, 7] rfl rfl ?_
        exact c_Gathering_takeIn_x_L80 k_t q 400 M9 r1 r2 0 0 hC_M9 ht_M9 (by omega) (by omega) (by omega) (by omega) (by omega) e10 e11 e12 (HS.fr (HS.fr p1 (show kd 3 = 18 from rfl) hC_M (FR.o (FR.rfl [(15, 8)] M) k_t rfl) rfl) (show kd 3 = 18 from rfl) (CI.u hC_M (i := 8) k_t (show (-2147483648 : Int) ≤ _ ∧ _ ≤ (2147483647 : Int) from by omega) rfl) hf_M9 rfl) (TK0.k (show TK0 T ((ju M t 8 v6)) t v4 v6 from ⟨((ju_i _ _ (by decide)).trans e4), (ju_same _ _ _ _), fun k a b => by rw [ju_i _ _ b, p0], fun b k hb => by rw [ju_c _ _ hb, p0]⟩) (by unfold wh1; rw [← w1_0, ← w2_0, p0, e4]; first | (rw [if_neg (by omega)])) (by unfold cm1; rw [← w1_0, ← w2_0, p0, e5]; (split <;> omega)) (by rw [← w1_0, p0, e8]; omega) w9_0) (TKR.z (fun k => by rw [w9_0.2.2.2 (t + 1) k (by omega) (by omega), ju_c _ _ (show t + 1 ≠ t by omega), p0])) ⟨w1_0, w2_0⟩ (by omega) (by omega) p5 (by omega)
  · refine jr.aload_n rfl rfl ?_
    refine jr.iload_n rfl rfl ?_
    refine jr_v rfl rfl (Or.inl rfl) rfl rfl (by decide) rfl ⟨rfl, Nat.le_of_ble_eq_true rfl, Nat.le_of_ble_eq_true rfl⟩ rfl (jc.deep (c_Headers_isMoreToCome_x hC_M (show kd 3 = 18 from rfl) (by omega) g_C p1 (fun r13 z13 w13_0 => ?_)) (by decide))
    refine jr.if_ne rfl rfl (by omega) (fun h27 => ?_) (fun h27 => ?_)
    · have sx27 : (1 : Int) ≤ r13 := by omega
      clear h27
      refine jr.aload_n rfl rfl ?_
      refine jr.aload_n rfl rfl ?_
      obtain ⟨v14, e14⟩ : ∃ z_, M t 8 = z_ := ⟨_, rfl⟩
      have b14 : (-2147483648) ≤ v14 ∧ v14 ≤ 2147483647 := by rw [← e14]; exact (CI.r hC_M k_t (by decide) 8)
      refine jr.getf (i := 8) (x := v14) (v := .int (Int32.ofInt (v14))) rfl rfl (Nat.lt_trans (kx_15 k_t).1 (by decide)) (kx_15 k_t).2 (by decide) rfl rfl e14 rfl ?_
      refine jr.iload rfl rfl ?_
      refine jr.iload rfl rfl ?_
      refine jr.iadd rfl ?_
      refine jr.imax rfl rfl (Nat.le_of_ble_eq_true rfl) (by omega) (by omega) ?_
      intro v15 d15 b15 c15
      refine jr.putf (i := 8) (x := v15) rfl rfl (Nat.lt_trans (kx_15 k_t).1 (by decide)) (kx_15 k_t).2 (by decide) rfl rfl rfl rfl rfl ?_
      refine jr.iload rfl rfl ?_
      refine jr.if_ne rfl rfl (by omega) (fun h57 => ?_) (fun h57 => ?_)
      · have sx57 : (1 : Int) ≤ r1 := by omega
        clear h57
        refine jr.iconst rfl ?_
        refine jr.istore (ls' := [_, _, _, _, _, _, _]) rfl (by decide) rfl ?_
        refine jr.iconst rfl ?_
        refine jr.istore (ls' := [_, _, _, _, _, _, _, _]) rfl (by decide) rfl ?_
        obtain ⟨v16, e16⟩ : ∃ z_, M t 11 = z_ := ⟨_, rfl⟩
        have b16 : (-1) ≤ v16 ∧ v16 ≤ 400 := by rw [← e16]; exact (CI.r hC_M k_t (by decide) 11)
        refine jr.pick (ls := [_, _, _, _, _, _, _, _]) [6, 3, 2, 1, 0, 4, 5, 7] rfl rfl ?_
        exact c_Gathering_takeIn_x_L80 k_t q 400 ((ju M t 8 v15)) r1 r2 0 0 (CI.u hC_M (i := 8) k_t (show (-2147483648 : Int) ≤ _ ∧ _ ≤ (2147483647 : Int) from by omega) rfl) (FR.o ht_M k_t rfl) (by omega) (by omega) (by omega) (by omega) (by omega) ((ju_i _ _ (by decide)).trans g_C) ((ju_i _ _ (by decide)).trans e4) (ju_same _ _ _ _) (HS.fr p1 (show kd 3 = 18 from rfl) hC_M (FR.o (FR.rfl [(15, 8)] M) k_t rfl) rfl) (TK0.n (show TK0 T ((ju M t 8 v15)) t v4 v15 from ⟨((ju_i _ _ (by decide)).trans e4), (ju_same _ _ _ _), fun k a b => by rw [ju_i _ _ b, p0], fun b k hb => by rw [ju_c _ _ hb, p0]⟩) (by unfold wh1; rw [← w1_0, ← w2_0, p0, e4]; first | (rw [← w13_0, if_pos (by omega)]) | (rw [← w13_0, if_neg (by omega)]) | (rw [if_neg (by omega)])) (by unfold cm1; rw [← w1_0, ← w2_0, p0, e14]; (split <;> omega)) (by rw [← w1_0, p0, e16]; omega)) (TKR.z (fun k => by rw [ju_c _ _ (show t + 1 ≠ t by omega), p0])) ⟨w1_0, w2_0⟩ (by omega) (by omega) p5 (by omega)
      · refine jr.aload_n rfl rfl ?_
        obtain ⟨v17, e17⟩ : ∃ z_, M t 11 = z_ := ⟨_, rfl⟩
        have b17 : (-1) ≤ v17 ∧ v17 ≤ 400 := by rw [← e17]; exact (CI.r hC_M k_t (by decide) 11)
        refine jr.getf (i := 11) (x := v17) (v := .int (Int32.ofInt (v17))) rfl rfl (Nat.lt_trans (kx_15 k_t).1 (by decide)) (kx_15 k_t).2 (by decide) rfl rfl ((ju_i _ _ (by decide)).trans e17) rfl ?_
        refine jr.iconst rfl ?_
        refine jr.icmp_ne rfl rfl (by omega) (by omega) (fun h65 => ?_) (fun h65 => ?_)
        · have sx65 : (0 : Int) ≤ v17 := by omega
          clear h65
          refine jr.iconst rfl ?_
          refine jr.istore (ls' := [_, _, _, _, _, _, _]) rfl (by decide) rfl ?_
          refine jr.iconst rfl ?_
          refine jr.istore (ls' := [_, _, _, _, _, _, _, _]) rfl (by decide) rfl ?_
          refine jr.pick (ls := [_, _, _, _, _, _, _, _]) [6, 3, 2, 1, 0, 4, 5, 7] rfl rfl ?_
          exact c_Gathering_takeIn_x_L80 k_t q 400 ((ju M t 8 v15)) r1 r2 0 0 (CI.u hC_M (i := 8) k_t (show (-2147483648 : Int) ≤ _ ∧ _ ≤ (2147483647 : Int) from by omega) rfl) (FR.o ht_M k_t rfl) (by omega) (by omega) (by omega) (by omega) (by omega) ((ju_i _ _ (by decide)).trans g_C) ((ju_i _ _ (by decide)).trans e4) (ju_same _ _ _ _) (HS.fr p1 (show kd 3 = 18 from rfl) hC_M (FR.o (FR.rfl [(15, 8)] M) k_t rfl) rfl) (TK0.n (show TK0 T ((ju M t 8 v15)) t v4 v15 from ⟨((ju_i _ _ (by decide)).trans e4), (ju_same _ _ _ _), fun k a b => by rw [ju_i _ _ b, p0], fun b k hb => by rw [ju_c _ _ hb, p0]⟩) (by unfold wh1; rw [← w1_0, ← w2_0, p0, e4]; first | (rw [← w13_0, if_pos (by omega)]) | (rw [← w13_0, if_neg (by omega)]) | (rw [if_neg (by omega)])) (by unfold cm1; rw [← w1_0, ← w2_0, p0, e14]; (split <;> omega)) (by rw [← w1_0, p0, e17]; omega)) (TKR.z (fun k => by rw [ju_c _ _ (show t + 1 ≠ t by omega), p0])) ⟨w1_0, w2_0⟩ (by omega) (by omega) p5 (by omega)
        · refine jr.aload_n rfl rfl ?_
          refine jr.aload_n rfl rfl ?_
          refine jr.iload_n rfl rfl ?_
          refine jr_v rfl rfl (Or.inl rfl) rfl rfl (Nat.lt_trans (kx_15 k_t).1 (by decide)) (kx_15 k_t).2 ⟨rfl, Nat.le_of_ble_eq_true rfl, Nat.le_of_ble_eq_true rfl⟩ rfl (jc.deep (c_Gathering_keepHeaders_x (CI.u hC_M (i := 8) k_t (show (-2147483648 : Int) ≤ _ ∧ _ ≤ (2147483647 : Int) from by omega) rfl) (FR.rfl _ ((ju M t 8 v15))) k_t (by omega) ((ju_i _ _ (by decide)).trans g_C) rfl (HS.fr p1 (show kd 3 = 18 from rfl) hC_M (FR.o (FR.rfl [(15, 8)] M) k_t rfl) rfl) (by omega) (by omega) (fun M18 hC_M18 hf_M18 w18_0 => ?_)) (by decide))
          have ht_M18 : FR W_c_Gathering_takeIn_x T M18 := FR.t (FR.o ht_M k_t rfl) hf_M18 (kw_sub rfl)
          refine jr.iconst rfl ?_
          refine jr.istore (ls' := [_, _, _, _, _, _, _]) rfl (by decide) rfl ?_
          refine jr.iconst rfl ?_
          refine jr.istore (ls' := [_, _, _, _, _, _, _, _]) rfl (by decide) rfl ?_
          have e19 : M18 3 3 = C := (hf_M18.g (show kd 3 = 18 from rfl) rfl).trans ((ju_i _ _ (by decide)).trans g_C)
          have e20 : M18 t 7 = v4 := (hf_M18.g k_t rfl).trans ((ju_i _ _ (by decide)).trans e4)
          have e21 : M18 t 8 = v15 := (hf_M18.g k_t rfl).trans (ju_same _ _ _ _)
          refine jr.pick (ls := [_, _, _, _, _, _, _, _]) [6, 3, 2, 1, 0, 4, 5, 7] rfl rfl ?_
          exact c_Gathering_takeIn_x_L80 k_t q 400 M18 r1 r2 0 0 hC_M18 ht_M18 (by omega) (by omega) (by omega) (by omega) (by omega) e19 e20 e21 (HS.fr (HS.fr p1 (show kd 3 = 18 from rfl) hC_M (FR.o (FR.rfl [(15, 8)] M) k_t rfl) rfl) (show kd 3 = 18 from rfl) (CI.u hC_M (i := 8) k_t (show (-2147483648 : Int) ≤ _ ∧ _ ≤ (2147483647 : Int) from by omega) rfl) hf_M18 rfl) (TK0.k (show TK0 T ((ju M t 8 v15)) t v4 v15 from ⟨((ju_i _ _ (by decide)).trans e4), (ju_same _ _ _ _), fun k a b => by rw [ju_i _ _ b, p0], fun b k hb => by rw [ju_c _ _ hb, p0]⟩) (by unfold wh1; rw [← w1_0, ← w2_0, p0, e4]; first | (rw [← w13_0, if_pos (by omega)]) | (rw [← w13_0, if_neg (by omega)]) | (rw [if_neg (by omega)])) (by unfold cm1; rw [← w1_0, ← w2_0, p0, e14]; (split <;> omega)) (by rw [← w1_0, p0, e17]; omega) w18_0) (TKR.z (fun k => by rw [w18_0.2.2.2 (t + 1) k (by omega) (by omega), ju_c _ _ (show t + 1 ≠ t by omega), p0])) ⟨w1_0, w2_0⟩ (by omega) (by omega) p5 (by omega)
    · refine jr.aload_n rfl rfl ?_
      refine jr.iload rfl rfl ?_
      refine jr.iload rfl rfl ?_
      refine jr.iadd rfl ?_
      refine jr.putf (i := 7) (x := (r1 + r2)) rfl rfl (Nat.lt_trans (kx_15 k_t).1 (by decide)) (kx_15 k_t).2 (by decide) rfl rfl rfl rfl rfl ?_
      refine jr.aload_n rfl rfl ?_
      refine jr.aload_n rfl rfl ?_
      obtain ⟨v22, e22⟩ : ∃ z_, M t 8 = z_ := ⟨_, rfl⟩
      have b22 : (-2147483648) ≤ v22 ∧ v22 ≤ 2147483647 := by rw [← e22]; exact (CI.r hC_M k_t (by decide) 8)
      refine jr.getf (i := 8) (x := v22) (v := .int (Int32.ofInt (v22))) rfl rfl (Nat.lt_trans (kx_15 k_t).1 (by decide)) (kx_15 k_t).2 (by decide) rfl rfl ((ju_i _ _ (by decide)).trans e22) rfl ?_
      refine jr.iload rfl rfl ?_
      refine jr.iload rfl rfl ?_
      refine jr.iadd rfl ?_
      refine jr.imax rfl rfl (Nat.le_of_ble_eq_true rfl) (by omega) (by omega) ?_
      intro v23 d23 b23 c23
      refine jr.putf (i := 8) (x := v23) rfl rfl (Nat.lt_trans (kx_15 k_t).1 (by decide)) (kx_15 k_t).2 (by decide) rfl rfl rfl rfl rfl ?_
      refine jr.iload rfl rfl ?_
      refine jr.if_ne rfl rfl (by omega) (fun h57 => ?_) (fun h57 => ?_)
      · have sx57 : (1 : Int) ≤ r1 := by omega
        clear h57
        refine jr.iconst rfl ?_
        refine jr.istore (ls' := [_, _, _, _, _, _, _]) rfl (by decide) rfl ?_
        refine jr.iconst rfl ?_
        refine jr.istore (ls' := [_, _, _, _, _, _, _, _]) rfl (by decide) rfl ?_
        obtain ⟨v24, e24⟩ : ∃ z_, M t 11 = z_ := ⟨_, rfl⟩
        have b24 : (-1) ≤ v24 ∧ v24 ≤ 400 := by rw [← e24]; exact (CI.r hC_M k_t (by decide) 11)
        refine jr.pick (ls := [_, _, _, _, _, _, _, _]) [6, 3, 2, 1, 0, 4, 5, 7] rfl rfl ?_
        exact c_Gathering_takeIn_x_L80 k_t q 400 ((ju (ju M t 7 (r1 + r2)) t 8 v23)) r1 r2 0 0 (CI.u (CI.u hC_M (i := 7) k_t (show (-1 : Int) ≤ _ ∧ _ ≤ (70000 : Int) from by omega) rfl) (i := 8) k_t (show (-2147483648 : Int) ≤ _ ∧ _ ≤ (2147483647 : Int) from by omega) rfl) (FR.o (FR.o ht_M k_t rfl) k_t rfl) (by omega) (by omega) (by omega) (by omega) (by omega) ((ju_i _ _ (by decide)).trans ((ju_i _ _ (by decide)).trans g_C)) ((ju_i _ _ (by decide)).trans (ju_same _ _ _ _)) (ju_same _ _ _ _) (HS.fr p1 (show kd 3 = 18 from rfl) hC_M (FR.o (FR.o (FR.rfl [(15, 7), (15, 8)] M) k_t rfl) k_t rfl) rfl) (TK0.n (show TK0 T ((ju (ju M t 7 (r1 + r2)) t 8 v23)) t (r1 + r2) v23 from ⟨((ju_i _ _ (by decide)).trans (ju_same _ _ _ _)), (ju_same _ _ _ _), fun k a b => by rw [ju_i _ _ b, ju_i _ _ a, p0], fun b k hb => by rw [ju_c _ _ hb, ju_c _ _ hb, p0]⟩) (by unfold wh1; rw [← w1_0, ← w2_0, p0, e4]; first | (rw [← w13_0, if_pos (by omega)]) | (rw [← w13_0, if_neg (by omega)]) | (rw [if_neg (by omega)])) (by unfold cm1; rw [← w1_0, ← w2_0, p0, e22]; (split <;> omega)) (by rw [← w1_0, p0, e24]; omega)) (TKR.z (fun k => by rw [ju_c _ _ (show t + 1 ≠ t by omega), ju_c _ _ (show t + 1 ≠ t by omega), p0])) ⟨w1_0, w2_0⟩ (by omega) (by omega) p5 (by omega)
      · refine jr.aload_n rfl rfl ?_
        obtain ⟨v25, e25⟩ : ∃ z_, M t 11 = z_ := ⟨_, rfl⟩
        have b25 : (-1) ≤ v25 ∧ v25 ≤ 400 := by rw [← e25]; exact (CI.r hC_M k_t (by decide) 11)
        refine jr.getf (i := 11) (x := v25) (v := .int (Int32.ofInt (v25))) rfl rfl (Nat.lt_trans (kx_15 k_t).1 (by decide)) (kx_15 k_t).2 (by decide) rfl rfl ((ju_i _ _ (by decide)).trans ((ju_i _ _ (by decide)).trans e25)) rfl ?_
        refine jr.iconst rfl ?_
        refine jr.icmp_ne rfl rfl (by omega) (by omega) (fun h65 => ?_) (fun h65 => ?_)
        · have sx65 : (0 : Int) ≤ v25 := by omega
          clear h65
          refine jr.iconst rfl ?_
          refine jr.istore (ls' := [_, _, _, _, _, _, _]) rfl (by decide) rfl ?_
          refine jr.iconst rfl ?_
          refine jr.istore (ls' := [_, _, _, _, _, _, _, _]) rfl (by decide) rfl ?_
          refine jr.pick (ls := [_, _, _, _, _, _, _, _]) [6, 3, 2, 1, 0, 4, 5, 7] rfl rfl ?_
          exact c_Gathering_takeIn_x_L80 k_t q 400 ((ju (ju M t 7 (r1 + r2)) t 8 v23)) r1 r2 0 0 (CI.u (CI.u hC_M (i := 7) k_t (show (-1 : Int) ≤ _ ∧ _ ≤ (70000 : Int) from by omega) rfl) (i := 8) k_t (show (-2147483648 : Int) ≤ _ ∧ _ ≤ (2147483647 : Int) from by omega) rfl) (FR.o (FR.o ht_M k_t rfl) k_t rfl) (by omega) (by omega) (by omega) (by omega) (by omega) ((ju_i _ _ (by decide)).trans ((ju_i _ _ (by decide)).trans g_C)) ((ju_i _ _ (by decide)).trans (ju_same _ _ _ _)) (ju_same _ _ _ _) (HS.fr p1 (show kd 3 = 18 from rfl) hC_M (FR.o (FR.o (FR.rfl [(15, 7), (15, 8)] M) k_t rfl) k_t rfl) rfl) (TK0.n (show TK0 T ((ju (ju M t 7 (r1 + r2)) t 8 v23)) t (r1 + r2) v23 from ⟨((ju_i _ _ (by decide)).trans (ju_same _ _ _ _)), (ju_same _ _ _ _), fun k a b => by rw [ju_i _ _ b, ju_i _ _ a, p0], fun b k hb => by rw [ju_c _ _ hb, ju_c _ _ hb, p0]⟩) (by unfold wh1; rw [← w1_0, ← w2_0, p0, e4]; first | (rw [← w13_0, if_pos (by omega)]) | (rw [← w13_0, if_neg (by omega)]) | (rw [if_neg (by omega)])) (by unfold cm1; rw [← w1_0, ← w2_0, p0, e22]; (split <;> omega)) (by rw [← w1_0, p0, e25]; omega)) (TKR.z (fun k => by rw [ju_c _ _ (show t + 1 ≠ t by omega), ju_c _ _ (show t + 1 ≠ t by omega), p0])) ⟨w1_0, w2_0⟩ (by omega) (by omega) p5 (by omega)
        · refine jr.aload_n rfl rfl ?_
          refine jr.aload_n rfl rfl ?_
          refine jr.iload_n rfl rfl ?_
          refine jr_v rfl rfl (Or.inl rfl) rfl rfl (Nat.lt_trans (kx_15 k_t).1 (by decide)) (kx_15 k_t).2 ⟨rfl, Nat.le_of_ble_eq_true rfl, Nat.le_of_ble_eq_true rfl⟩ rfl (jc.deep (c_Gathering_keepHeaders_x (CI.u (CI.u hC_M (i := 7) k_t (show (-1 : Int) ≤ _ ∧ _ ≤ (70000 : Int) from by omega) rfl) (i := 8) k_t (show (-2147483648 : Int) ≤ _ ∧ _ ≤ (2147483647 : Int) from by omega) rfl) (FR.rfl _ ((ju (ju M t 7 (r1 + r2)) t 8 v23))) k_t (by omega) ((ju_i _ _ (by decide)).trans ((ju_i _ _ (by decide)).trans g_C)) rfl (HS.fr p1 (show kd 3 = 18 from rfl) hC_M (FR.o (FR.o (FR.rfl [(15, 7), (15, 8)] M) k_t rfl) k_t rfl) rfl) (by omega) (by omega) (fun M26 hC_M26 hf_M26 w26_0 => ?_)) (by decide))
          have ht_M26 : FR W_c_Gathering_takeIn_x T M26 := FR.t (FR.o (FR.o ht_M k_t rfl) k_t rfl) hf_M26 (kw_sub rfl)
          refine jr.iconst rfl ?_
          refine jr.istore (ls' := [_, _, _, _, _, _, _]) rfl (by decide) rfl ?_
          refine jr.iconst rfl ?_
          refine jr.istore (ls' := [_, _, _, _, _, _, _, _]) rfl (by decide) rfl ?_
          have e27 : M26 3 3 = C := (hf_M26.g (show kd 3 = 18 from rfl) rfl).trans ((ju_i _ _ (by decide)).trans ((ju_i _ _ (by decide)).trans g_C))
          have e28 : M26 t 7 = r1 + r2 := (hf_M26.g k_t rfl).trans ((ju_i _ _ (by decide)).trans (ju_same _ _ _ _))
          have e29 : M26 t 8 = v23 := (hf_M26.g k_t rfl).trans (ju_same _ _ _ _)
          refine jr.pick (ls := [_, _, _, _, _, _, _, _]) [6, 3, 2, 1, 0, 4, 5, 7] rfl rfl ?_
          exact c_Gathering_takeIn_x_L80 k_t q 400 M26 r1 r2 0 0 hC_M26 ht_M26 (by omega) (by omega) (by omega) (by omega) (by omega) e27 e28 e29 (HS.fr (HS.fr p1 (show kd 3 = 18 from rfl) hC_M (FR.o (FR.o (FR.rfl [(15, 7), (15, 8)] M) k_t rfl) k_t rfl) rfl) (show kd 3 = 18 from rfl) (CI.u (CI.u hC_M (i := 7) k_t (show (-1 : Int) ≤ _ ∧ _ ≤ (70000 : Int) from by omega) rfl) (i := 8) k_t (show (-2147483648 : Int) ≤ _ ∧ _ ≤ (2147483647 : Int) from by omega) rfl) hf_M26 rfl) (TK0.k (show TK0 T ((ju (ju M t 7 (r1 + r2)) t 8 v23)) t (r1 + r2) v23 from ⟨((ju_i _ _ (by decide)).trans (ju_same _ _ _ _)), (ju_same _ _ _ _), fun k a b => by rw [ju_i _ _ b, ju_i _ _ a, p0], fun b k hb => by rw [ju_c _ _ hb, ju_c _ _ hb, p0]⟩) (by unfold wh1; rw [← w1_0, ← w2_0, p0, e4]; first | (rw [← w13_0, if_pos (by omega)]) | (rw [← w13_0, if_neg (by omega)]) | (rw [if_neg (by omega)])) (by unfold cm1; rw [← w1_0, ← w2_0, p0, e22]; (split <;> omega)) (by rw [← w1_0, p0, e25]; omega) w26_0) (TKR.z (fun k => by rw [w26_0.2.2.2 (t + 1) k (by omega) (by omega), ju_c _ _ (show t + 1 ≠ t by omega), ju_c _ _ (show t + 1 ≠ t by omega), p0])) ⟨w1_0, w2_0⟩ (by omega) (by omega) p5 (by omega)
end
section
end
